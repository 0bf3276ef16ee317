section
-- ===== PART A: goes FIRST, ahead of the names: the tables' words, and 'selects' of the private methods out of them =====
/-- a private method of a class that the tables say can be made, by its rows of tables_1 -/
def lw_okq (q : MethodName × Nat) : Prop := (q.1.cls ≠ "java/lang/invoke/MethodHandle" ∧ q.1.cls ≠ "java/lang/invoke/VarHandle") ∧ Cond.instantiable q.1.cls q.2 ∈ tables_1 ∧ Cond.privateMethod q.1 ∈ tables_1 ∧ Cond.instanceMethod q.1 ∈ tables_1
theorem lw_p0 : lw_okq (⟨"PipPortrait$Board", "measure", "()V"⟩, 13) := ⟨⟨by decide +kernel, by decide +kernel⟩, List.mem_of_getElem? (i := 32) (by decide +kernel), List.mem_of_getElem? (i := 245) (by decide +kernel), List.mem_of_getElem? (i := 246) (by decide +kernel)⟩
theorem lw_p1 : lw_okq (⟨"PipPortrait$Board", "placeAtFirst", "(I)V"⟩, 13) := ⟨⟨by decide +kernel, by decide +kernel⟩, List.mem_of_getElem? (i := 32) (by decide +kernel), List.mem_of_getElem? (i := 256) (by decide +kernel), List.mem_of_getElem? (i := 257) (by decide +kernel)⟩
theorem lw_p2 : lw_okq (⟨"PipPortrait$Board", "markPlaces", "()V"⟩, 13) := ⟨⟨by decide +kernel, by decide +kernel⟩, List.mem_of_getElem? (i := 32) (by decide +kernel), List.mem_of_getElem? (i := 260) (by decide +kernel), List.mem_of_getElem? (i := 261) (by decide +kernel)⟩
theorem lw_p3 : lw_okq (⟨"PipPortrait$Text", "firstWrong", "(Ljava/lang/String;I)I"⟩, 2) := ⟨⟨by decide +kernel, by decide +kernel⟩, List.mem_of_getElem? (i := 223) (by decide +kernel), List.mem_of_getElem? (i := 300) (by decide +kernel), List.mem_of_getElem? (i := 301) (by decide +kernel)⟩
theorem lw_p4 : lw_okq (⟨"PipPortrait$Memory", "stateAt", "(I)LPipPortrait$State;"⟩, 3) := ⟨⟨by decide +kernel, by decide +kernel⟩, List.mem_of_getElem? (i := 187) (by decide +kernel), List.mem_of_getElem? (i := 384) (by decide +kernel), List.mem_of_getElem? (i := 385) (by decide +kernel)⟩
theorem lw_p5 : lw_okq (⟨"PipPortrait$Board", "layBestTile", "(I)V"⟩, 13) := ⟨⟨by decide +kernel, by decide +kernel⟩, List.mem_of_getElem? (i := 32) (by decide +kernel), List.mem_of_getElem? (i := 417) (by decide +kernel), List.mem_of_getElem? (i := 418) (by decide +kernel)⟩
theorem lw_p6 : lw_okq (⟨"PipPortrait$Board", "layBetterWay", "(I)V"⟩, 13) := ⟨⟨by decide +kernel, by decide +kernel⟩, List.mem_of_getElem? (i := 32) (by decide +kernel), List.mem_of_getElem? (i := 424) (by decide +kernel), List.mem_of_getElem? (i := 425) (by decide +kernel)⟩
theorem lw_p7 : lw_okq (⟨"java/lang/Throwable", "fillInStackTrace", "(I)Ljava/lang/Throwable;"⟩, 6) := ⟨⟨by decide +kernel, by decide +kernel⟩, List.mem_of_getElem? (i := 489) (by decide +kernel), List.mem_of_getElem? (i := 487) (by decide +kernel), List.mem_of_getElem? (i := 488) (by decide +kernel)⟩
theorem lw_p8 : lw_okq (⟨"PipPortrait$Board", "numberAnew", "(I)V"⟩, 13) := ⟨⟨by decide +kernel, by decide +kernel⟩, List.mem_of_getElem? (i := 32) (by decide +kernel), List.mem_of_getElem? (i := 630) (by decide +kernel), List.mem_of_getElem? (i := 631) (by decide +kernel)⟩
theorem lw_p9 : lw_okq (⟨"PipPortrait$Board", "exchangePlaces", "(II)V"⟩, 13) := ⟨⟨by decide +kernel, by decide +kernel⟩, List.mem_of_getElem? (i := 32) (by decide +kernel), List.mem_of_getElem? (i := 634) (by decide +kernel), List.mem_of_getElem? (i := 635) (by decide +kernel)⟩
theorem lw_p10 : lw_okq (⟨"PipPortrait$Search", "fillRows", "(LPipPortrait$Board;)V"⟩, 8) := ⟨⟨by decide +kernel, by decide +kernel⟩, List.mem_of_getElem? (i := 99) (by decide +kernel), List.mem_of_getElem? (i := 655) (by decide +kernel), List.mem_of_getElem? (i := 656) (by decide +kernel)⟩
theorem lw_p11 : lw_okq (⟨"PipPortrait$Search", "offer", "(II)V"⟩, 8) := ⟨⟨by decide +kernel, by decide +kernel⟩, List.mem_of_getElem? (i := 99) (by decide +kernel), List.mem_of_getElem? (i := 667) (by decide +kernel), List.mem_of_getElem? (i := 668) (by decide +kernel)⟩
theorem lw_p12 : lw_okq (⟨"PipPortrait$Search", "offerSwapsOf", "(II)V"⟩, 8) := ⟨⟨by decide +kernel, by decide +kernel⟩, List.mem_of_getElem? (i := 99) (by decide +kernel), List.mem_of_getElem? (i := 671) (by decide +kernel), List.mem_of_getElem? (i := 672) (by decide +kernel)⟩
theorem lw_p13 : lw_okq (⟨"PipPortrait$Board", "leastWith", "(III)I"⟩, 13) := ⟨⟨by decide +kernel, by decide +kernel⟩, List.mem_of_getElem? (i := 32) (by decide +kernel), List.mem_of_getElem? (i := 684) (by decide +kernel), List.mem_of_getElem? (i := 685) (by decide +kernel)⟩
theorem lw_p14 : lw_okq (⟨"PipPortrait$Board", "swapGain", "(II)I"⟩, 13) := ⟨⟨by decide +kernel, by decide +kernel⟩, List.mem_of_getElem? (i := 32) (by decide +kernel), List.mem_of_getElem? (i := 888) (by decide +kernel), List.mem_of_getElem? (i := 889) (by decide +kernel)⟩
theorem lw_p15 : lw_okq (⟨"PipPortrait$Board", "leastAt", "(II)I"⟩, 13) := ⟨⟨by decide +kernel, by decide +kernel⟩, List.mem_of_getElem? (i := 32) (by decide +kernel), List.mem_of_getElem? (i := 892) (by decide +kernel), List.mem_of_getElem? (i := 893) (by decide +kernel)⟩
def lw_privs_1 : List (MethodName × Nat) := [(⟨"PipPortrait$Board", "measure", "()V"⟩, 13), (⟨"PipPortrait$Board", "placeAtFirst", "(I)V"⟩, 13), (⟨"PipPortrait$Board", "markPlaces", "()V"⟩, 13), (⟨"PipPortrait$Text", "firstWrong", "(Ljava/lang/String;I)I"⟩, 2), (⟨"PipPortrait$Memory", "stateAt", "(I)LPipPortrait$State;"⟩, 3), (⟨"PipPortrait$Board", "layBestTile", "(I)V"⟩, 13), (⟨"PipPortrait$Board", "layBetterWay", "(I)V"⟩, 13), (⟨"java/lang/Throwable", "fillInStackTrace", "(I)Ljava/lang/Throwable;"⟩, 6), (⟨"PipPortrait$Board", "numberAnew", "(I)V"⟩, 13), (⟨"PipPortrait$Board", "exchangePlaces", "(II)V"⟩, 13), (⟨"PipPortrait$Search", "fillRows", "(LPipPortrait$Board;)V"⟩, 8), (⟨"PipPortrait$Search", "offer", "(II)V"⟩, 8), (⟨"PipPortrait$Search", "offerSwapsOf", "(II)V"⟩, 8), (⟨"PipPortrait$Board", "leastWith", "(III)I"⟩, 13), (⟨"PipPortrait$Board", "swapGain", "(II)I"⟩, 13), (⟨"PipPortrait$Board", "leastAt", "(II)I"⟩, 13)]
theorem lw_r1 : ∀ q ∈ lw_privs_1, lw_okq q := List.forall_mem_cons.mpr ⟨lw_p0, List.forall_mem_cons.mpr ⟨lw_p1, List.forall_mem_cons.mpr ⟨lw_p2, List.forall_mem_cons.mpr ⟨lw_p3, List.forall_mem_cons.mpr ⟨lw_p4, List.forall_mem_cons.mpr ⟨lw_p5, List.forall_mem_cons.mpr ⟨lw_p6, List.forall_mem_cons.mpr ⟨lw_p7, List.forall_mem_cons.mpr ⟨lw_p8, List.forall_mem_cons.mpr ⟨lw_p9, List.forall_mem_cons.mpr ⟨lw_p10, List.forall_mem_cons.mpr ⟨lw_p11, List.forall_mem_cons.mpr ⟨lw_p12, List.forall_mem_cons.mpr ⟨lw_p13, List.forall_mem_cons.mpr ⟨lw_p14, List.forall_mem_cons.mpr ⟨lw_p15, fun _ h => absurd h List.not_mem_nil⟩⟩⟩⟩⟩⟩⟩⟩⟩⟩⟩⟩⟩⟩⟩⟩
theorem lw_p16 : lw_okq (⟨"PipPortrait$Board", "rankOf", "(I)I"⟩, 13) := ⟨⟨by decide +kernel, by decide +kernel⟩, List.mem_of_getElem? (i := 32) (by decide +kernel), List.mem_of_getElem? (i := 926) (by decide +kernel), List.mem_of_getElem? (i := 927) (by decide +kernel)⟩
theorem lw_p17 : lw_okq (⟨"PipPortraitModel", "refused", "(I)Z"⟩, 15) := ⟨⟨by decide +kernel, by decide +kernel⟩, List.mem_of_getElem? (i := 1008) (by decide +kernel), List.mem_of_getElem? (i := 1084) (by decide +kernel), List.mem_of_getElem? (i := 1085) (by decide +kernel)⟩
theorem lw_p18 : lw_okq (⟨"PipPortraitModel", "readText", "([I)I"⟩, 15) := ⟨⟨by decide +kernel, by decide +kernel⟩, List.mem_of_getElem? (i := 1008) (by decide +kernel), List.mem_of_getElem? (i := 1096) (by decide +kernel), List.mem_of_getElem? (i := 1097) (by decide +kernel)⟩
theorem lw_p19 : lw_okq (⟨"PipPortraitModel", "figures", "(IIII)I"⟩, 15) := ⟨⟨by decide +kernel, by decide +kernel⟩, List.mem_of_getElem? (i := 1008) (by decide +kernel), List.mem_of_getElem? (i := 1100) (by decide +kernel), List.mem_of_getElem? (i := 1101) (by decide +kernel)⟩
theorem lw_p20 : lw_okq (⟨"PipPortraitModel", "readCommand", "([I)Z"⟩, 15) := ⟨⟨by decide +kernel, by decide +kernel⟩, List.mem_of_getElem? (i := 1008) (by decide +kernel), List.mem_of_getElem? (i := 1105) (by decide +kernel), List.mem_of_getElem? (i := 1106) (by decide +kernel)⟩
theorem lw_p21 : lw_okq (⟨"PipPortraitModel", "readGrey", "([I)Z"⟩, 15) := ⟨⟨by decide +kernel, by decide +kernel⟩, List.mem_of_getElem? (i := 1008) (by decide +kernel), List.mem_of_getElem? (i := 1109) (by decide +kernel), List.mem_of_getElem? (i := 1110) (by decide +kernel)⟩
theorem lw_p22 : lw_okq (⟨"PipPortraitModel", "done", "(Z)Z"⟩, 15) := ⟨⟨by decide +kernel, by decide +kernel⟩, List.mem_of_getElem? (i := 1008) (by decide +kernel), List.mem_of_getElem? (i := 1119) (by decide +kernel), List.mem_of_getElem? (i := 1120) (by decide +kernel)⟩
theorem lw_p23 : lw_okq (⟨"PipPortraitModel", "faded", "([III)Z"⟩, 15) := ⟨⟨by decide +kernel, by decide +kernel⟩, List.mem_of_getElem? (i := 1008) (by decide +kernel), List.mem_of_getElem? (i := 1123) (by decide +kernel), List.mem_of_getElem? (i := 1124) (by decide +kernel)⟩
theorem lw_p24 : lw_okq (⟨"PipPortraitModel", "turnedOne", "([II)Z"⟩, 15) := ⟨⟨by decide +kernel, by decide +kernel⟩, List.mem_of_getElem? (i := 1008) (by decide +kernel), List.mem_of_getElem? (i := 1130) (by decide +kernel), List.mem_of_getElem? (i := 1131) (by decide +kernel)⟩
theorem lw_p25 : lw_okq (⟨"PipPortraitModel", "swapped", "([III)Z"⟩, 15) := ⟨⟨by decide +kernel, by decide +kernel⟩, List.mem_of_getElem? (i := 1008) (by decide +kernel), List.mem_of_getElem? (i := 1173) (by decide +kernel), List.mem_of_getElem? (i := 1174) (by decide +kernel)⟩
theorem lw_p26 : lw_okq (⟨"PipPortraitModel", "flipped", "([III)Z"⟩, 15) := ⟨⟨by decide +kernel, by decide +kernel⟩, List.mem_of_getElem? (i := 1008) (by decide +kernel), List.mem_of_getElem? (i := 1195) (by decide +kernel), List.mem_of_getElem? (i := 1196) (by decide +kernel)⟩
theorem lw_p27 : lw_okq (⟨"PipPortraitModel", "laidAnew", "([I)Z"⟩, 15) := ⟨⟨by decide +kernel, by decide +kernel⟩, List.mem_of_getElem? (i := 1008) (by decide +kernel), List.mem_of_getElem? (i := 1220) (by decide +kernel), List.mem_of_getElem? (i := 1221) (by decide +kernel)⟩
theorem lw_p28 : lw_okq (⟨"PipPortraitModel", "layAll", "([I)I"⟩, 15) := ⟨⟨by decide +kernel, by decide +kernel⟩, List.mem_of_getElem? (i := 1008) (by decide +kernel), List.mem_of_getElem? (i := 1224) (by decide +kernel), List.mem_of_getElem? (i := 1225) (by decide +kernel)⟩
theorem lw_p29 : lw_okq (⟨"PipPortraitModel", "improveOn", "([II)I"⟩, 15) := ⟨⟨by decide +kernel, by decide +kernel⟩, List.mem_of_getElem? (i := 1008) (by decide +kernel), List.mem_of_getElem? (i := 1231) (by decide +kernel), List.mem_of_getElem? (i := 1232) (by decide +kernel)⟩
theorem lw_p30 : lw_okq (⟨"PipPortraitModel", "find", "([I)V"⟩, 15) := ⟨⟨by decide +kernel, by decide +kernel⟩, List.mem_of_getElem? (i := 1008) (by decide +kernel), List.mem_of_getElem? (i := 1235) (by decide +kernel), List.mem_of_getElem? (i := 1236) (by decide +kernel)⟩
theorem lw_p31 : lw_okq (⟨"PipPortraitModel", "offer", "(II)V"⟩, 15) := ⟨⟨by decide +kernel, by decide +kernel⟩, List.mem_of_getElem? (i := 1008) (by decide +kernel), List.mem_of_getElem? (i := 1239) (by decide +kernel), List.mem_of_getElem? (i := 1240) (by decide +kernel)⟩
def lw_privs_2 : List (MethodName × Nat) := [(⟨"PipPortrait$Board", "rankOf", "(I)I"⟩, 13), (⟨"PipPortraitModel", "refused", "(I)Z"⟩, 15), (⟨"PipPortraitModel", "readText", "([I)I"⟩, 15), (⟨"PipPortraitModel", "figures", "(IIII)I"⟩, 15), (⟨"PipPortraitModel", "readCommand", "([I)Z"⟩, 15), (⟨"PipPortraitModel", "readGrey", "([I)Z"⟩, 15), (⟨"PipPortraitModel", "done", "(Z)Z"⟩, 15), (⟨"PipPortraitModel", "faded", "([III)Z"⟩, 15), (⟨"PipPortraitModel", "turnedOne", "([II)Z"⟩, 15), (⟨"PipPortraitModel", "swapped", "([III)Z"⟩, 15), (⟨"PipPortraitModel", "flipped", "([III)Z"⟩, 15), (⟨"PipPortraitModel", "laidAnew", "([I)Z"⟩, 15), (⟨"PipPortraitModel", "layAll", "([I)I"⟩, 15), (⟨"PipPortraitModel", "improveOn", "([II)I"⟩, 15), (⟨"PipPortraitModel", "find", "([I)V"⟩, 15), (⟨"PipPortraitModel", "offer", "(II)V"⟩, 15)]
theorem lw_r2 : ∀ q ∈ lw_privs_2, lw_okq q := List.forall_mem_cons.mpr ⟨lw_p16, List.forall_mem_cons.mpr ⟨lw_p17, List.forall_mem_cons.mpr ⟨lw_p18, List.forall_mem_cons.mpr ⟨lw_p19, List.forall_mem_cons.mpr ⟨lw_p20, List.forall_mem_cons.mpr ⟨lw_p21, List.forall_mem_cons.mpr ⟨lw_p22, List.forall_mem_cons.mpr ⟨lw_p23, List.forall_mem_cons.mpr ⟨lw_p24, List.forall_mem_cons.mpr ⟨lw_p25, List.forall_mem_cons.mpr ⟨lw_p26, List.forall_mem_cons.mpr ⟨lw_p27, List.forall_mem_cons.mpr ⟨lw_p28, List.forall_mem_cons.mpr ⟨lw_p29, List.forall_mem_cons.mpr ⟨lw_p30, List.forall_mem_cons.mpr ⟨lw_p31, fun _ h => absurd h List.not_mem_nil⟩⟩⟩⟩⟩⟩⟩⟩⟩⟩⟩⟩⟩⟩⟩⟩
theorem lw_p32 : lw_okq (⟨"PipPortraitModel", "findSwaps", "([III)V"⟩, 15) := ⟨⟨by decide +kernel, by decide +kernel⟩, List.mem_of_getElem? (i := 1008) (by decide +kernel), List.mem_of_getElem? (i := 1243) (by decide +kernel), List.mem_of_getElem? (i := 1244) (by decide +kernel)⟩
theorem lw_p33 : lw_okq (⟨"PipPortraitModel", "remember", "()V"⟩, 15) := ⟨⟨by decide +kernel, by decide +kernel⟩, List.mem_of_getElem? (i := 1008) (by decide +kernel), List.mem_of_getElem? (i := 1293) (by decide +kernel), List.mem_of_getElem? (i := 1294) (by decide +kernel)⟩
theorem lw_p34 : lw_okq (⟨"PipPortraitModel", "command", "(II)Z"⟩, 15) := ⟨⟨by decide +kernel, by decide +kernel⟩, List.mem_of_getElem? (i := 1008) (by decide +kernel), List.mem_of_getElem? (i := 1370) (by decide +kernel), List.mem_of_getElem? (i := 1371) (by decide +kernel)⟩
theorem lw_p35 : lw_okq (⟨"PipPortraitModel", "turnBy", "(I)V"⟩, 15) := ⟨⟨by decide +kernel, by decide +kernel⟩, List.mem_of_getElem? (i := 1008) (by decide +kernel), List.mem_of_getElem? (i := 1381) (by decide +kernel), List.mem_of_getElem? (i := 1382) (by decide +kernel)⟩
def lw_privs_3 : List (MethodName × Nat) := [(⟨"PipPortraitModel", "findSwaps", "([III)V"⟩, 15), (⟨"PipPortraitModel", "remember", "()V"⟩, 15), (⟨"PipPortraitModel", "command", "(II)Z"⟩, 15), (⟨"PipPortraitModel", "turnBy", "(I)V"⟩, 15)]
theorem lw_r3 : ∀ q ∈ lw_privs_3, lw_okq q := List.forall_mem_cons.mpr ⟨lw_p32, List.forall_mem_cons.mpr ⟨lw_p33, List.forall_mem_cons.mpr ⟨lw_p34, List.forall_mem_cons.mpr ⟨lw_p35, fun _ h => absurd h List.not_mem_nil⟩⟩⟩⟩
def lw_privs : List (MethodName × Nat) := lw_privs_1 ++ (lw_privs_2 ++ (lw_privs_3))
def lw_tbl : List Cond := k2_sels lw_privs ++ tables_1
theorem lw_privs_ok : ∀ q ∈ lw_privs, lw_okq q := by
  show ∀ q ∈ lw_privs_1 ++ (lw_privs_2 ++ (lw_privs_3)), lw_okq q
  exact List.forall_mem_append.mpr ⟨lw_r1, List.forall_mem_append.mpr ⟨lw_r2, lw_r3⟩⟩

/-! ===== BEGIN words of one list among another's, by their places ===== -/
theorem goodIn_r {big : List Cond} (ws : List Cond) (ps : List Nat) (hp : ws = ps.filterMap (fun i => big[i]?)) (h : ws.all goodWord = true) : GoodIn big ws := by
  intro w hw
  have h1 := List.all_eq_true.mp h w hw
  rw [hp] at hw
  obtain ⟨i, -, hi⟩ := List.mem_filterMap.mp hw
  have hm : w ∈ big := by first | exact List.mem_of_getElem? hi | exact List.getElem?_mem hi
  exact ⟨hm, good_of_word h1⟩
theorem goodIn_app {big a b : List Cond} (ha : GoodIn big a) (hb : GoodIn big b) : GoodIn big (a ++ b) := fun w h => (List.mem_append.mp h).elim (ha w) (hb w)
theorem goodIn_ca {big a b : List Cond} {c : Cond} (ha : GoodIn big (c :: a)) (hb : GoodIn big b) : GoodIn big (c :: (a ++ b)) := fun w h => (List.mem_cons.mp h).elim (fun e => ha w (List.mem_cons.mpr (Or.inl e))) (fun h => (List.mem_append.mp h).elim (fun h => ha w (List.mem_cons.mpr (Or.inr h))) (hb w))
theorem goodIn_sub {big ws : List Cond} (hm : ∀ w ∈ ws, w ∈ big) (h : ws.all goodWord = true) : GoodIn big ws := fun w hw => ⟨hm w hw, good_of_word (List.all_eq_true.mp h w hw)⟩
/-! ===== END ===== -/

/-! ===== BEGIN exceptions that leave a method, and their catching by the caller (launches without stack traces) ===== -/
section VXA
/-! The laws vx_back, vx_callV, vx_callS, vx_callSW, vx_throw0, vx_throwS follow proofs of the library, with one case more: JvmDerived/Free/Laws.lean (Back.of_free), Shelf42/LK1.lean (callV, callS), Shelf/KitTraced.lean (throwNew0V, throwNewS). -/
/-- where a method has thrown q: the class by its name, the cell, what was written, the world -/
def vx_T (XC : String → State → State → Prop) (st : State) (q : Addr) (t : State) (mc ms : Nat) (free : Addr → Prop) : Prop :=
  ∃ (E : String) (ce : Cell) (L : List Loc), XC E st t ∧ t.heap[q]? = some ce ∧ ce.vm = .none ∧ st.vm.findClass E = some ce.cls ∧ st.WarmedH t.vm ∧ st.sameButNew ({ t with vm := st.vm } : State) L mc ms ∧ ∀ z ∈ L, free z.base
def vx_Q (Qc : Array Value → State → Outcome → State → Prop) (XC : String → State → State → Prop) (mc ms : Nat) (free : Addr → Prop) : Array Value → State → Outcome → State → Prop := fun a st o t =>
  (Qc a st o t ∧ ∃ L, FrameEnd st o t L mc ms ∧ ∀ q ∈ L, free q.base) ∨ ∃ q, o = .threw q ∧ vx_T XC st q t mc ms free
/-- a callee that returns or throws -/
def vx_Met (l : Launch) (y : MethodName) (ws : List Cond) (rm : Room) (Pc : Array Value → State → Prop) (Qc : Array Value → State → Outcome → State → Prop) (XC : String → State → State → Prop) (mc ms : Nat) (free : Addr → Prop) : Prop :=
  MetFree l y (headSpec ws rm) Pc (fun _ _ _ _ _ => True) (vx_Q Qc XC mc ms free)
def vx_Post (XC : String → State → State → Prop) (mc ms : Nat) (free : Addr → Prop) : Pt → Array Value → Addr → Pt → Prop := fun A a q B =>
  ∃ (g : JFrame) (mk : MethodId) (t : State) (L : List Loc) (E : String) (ce : Cell), B.U.heap = t.heap ∧ B.U.vm = t.vm ∧ XC E (A.U.calling g mk a) t ∧ t.heap[q]? = some ce ∧ ce.vm = .none ∧ A.U.vm.findClass E = some ce.cls ∧ B.locs = A.locs ++ L ∧ (∀ z ∈ L, free z.base) ∧ B.cells = A.cells + mc ∧ B.slots = A.slots + ms
def vx_Back (l : Launch) (R : Room) (p : Program) (e : Env) (below : List Frame) (s : State) (sargs : Array Value) (y : MethodName) (len W9 : Nat)
    (Pre : Pt → Array Value → Prop) (Post : Pt → Array Value → Option Value → Pt → Prop) (PostX : Pt → Array Value → Addr → Pt → Prop) : Prop :=
  ∀ (m : MethodId) (meth : Method) (c : Code) (A : Pt) (g : JFrame) (ig : Instr) (mk : MethodId) (a : Array Value),
    Stand p l e R s m sargs below meth c A.U A.locs A.cells A.slots → g.method = m → g.locals.size = c.maxLocals → decode c.code g.pc = .ok (ig, len) →
    2 * g.monitorRoom + (g.stack.map fun v => v.category).sum ≤ W9 → A.U.methodNamed? y = some mk → Pre A a →
    (∃ (v : Option Value) (B : Pt), Stand p l e R s m sargs below meth c B.U B.locs B.cells B.slots ∧ Post A a v B ∧
      Steps p.tables e below (doInvoke e (A.U.setTop g) [] mk a).1 (B.U.setTop { g with pc := g.pc + len, stack := v.toList ++ g.stack })) ∨
    (∃ (q : Addr) (B : Pt), Stand p l e R s m sargs below meth c B.U B.locs B.cells B.slots ∧ PostX A a q B ∧
      Steps p.tables e below (doInvoke e (A.U.setTop g) [] mk a).1 ((B.U.setTop g).pushFrame (.throwing q)))
section Payer
variable {l : Launch} {R : Room} {p : Program} {e : Env} {below : List Frame} {s : State} {sargs : Array Value} {y : MethodName} {len W9 : Nat}
theorem vx_back {ws : List Cond} {rm : Room} {Pc : Array Value → State → Prop} {Qc : Array Value → State → Outcome → State → Prop} {XC : String → State → State → Prop} {mc ms : Nat} {free : Addr → Prop} {bytes : ByteArray} {maxL : Nat} {ret : Option FieldType}
    (hM : vx_Met l y ws rm Pc Qc XC mc ms free) (hblind : FrameBlind Pc) (hrc : rm.cells = mc) (hrs : rm.slots = ms)
    (hframes : rm.frames + 1 ≤ R.frames) (hlocals : W9 + (maxL + 11) + rm.locals ≤ R.locals)
    (hws : ∀ w ∈ ws, ∀ a' U, s.WarmedH U.vm → w.before a' U = true) (hcode : Cond.code y bytes maxL ret ∈ ws) (hinit : ∀ a' U, s.WarmedH U.vm → (Cond.initialized y.cls).before a' U = true) :
    vx_Back l R p e below s sargs y len W9 (PreOf R mc ms Pc) (PostOf Qc mc ms free) (vx_Post XC mc ms free) := by
  intro m meth c A g ig mk a X hg hsize hdg hW hn hp
  have h1 : (headSpec ws rm).pre.before a A.U = true := atoms_intro fun w hw => hws w hw _ _ X.warmed
  have h2 : (Cond.code y bytes maxL ret).before a A.U = true := hws _ hcode _ _ X.warmed
  have h3 : (Cond.initialized y.cls).before a A.U = true := hinit _ _ X.warmed
  have h4 : A.cells + (headSpec ws rm).room.cells ≤ R.cells := by rw [show (headSpec ws rm).room.cells = mc from hrc]; exact hp.1
  have h5 : A.slots + (headSpec ws rm).room.slots ≤ R.slots := by rw [show (headSpec ws rm).room.slots = ms from hrs]; exact hp.2.1
  have hPc : Pc a (A.U.calling g mk a) := hblind _ _ _ _ hp.2.2
  obtain ⟨U, Ls, c0, s0⟩ := A
  dsimp only [Pt.U, Pt.locs, Pt.cells, Pt.slots] at h1 h2 h3 h4 h5 X hn hPc ⊢
  obtain ⟨methY, cY, hmY, hcY, -, hlY, -, -, -, -⟩ := Cond.code_spec hn h2
  obtain ⟨kY, hkY, -⟩ := className_of_methodNamed hn
  have hinitY : kY.init = .initialized := Cond.initialized_spec (findClass_of_methodNamed hn) hkY h3
  have h : At U g.method c below := by rw [hg]; exact X.here
  have hlocals9 : W9 + (maxL + 11) + (headSpec ws rm).room.locals ≤ R.locals := hlocals
  have happ : (headSpec ws rm).appliesLoose y e.platform (U.calling g mk a) = true :=
    Spec.appliesLoose_calling (g := g) h hdg hn hkY hinitY
      (X.room_calling (g := g) (R' := (headSpec ws rm).room) hsize hmY hcY hframes (by rw [hlY]; omega) h4 h5) h1
  obtain ⟨mid, hmid⟩ := h.above
  have hfr : (U.setTop g).frames = (.java g :: mid) ++ below := by rw [State.frames_setTop' g h.top, hmid]; rfl
  obtain ⟨o, s₂, hsteps, -, hend, hq⟩ := Steps.callFree hM p X.admits X.cas X.clock (acts := []) hfr happ hPc trivial
  have hq' : vx_Q Qc XC mc ms free a (U.calling g mk a) o s₂ := hq
  rw [State.frames_setTop' g h.top] at hend
  obtain ⟨g₀, hg0⟩ := Option.isSome_iff_exists.mp h.top
  obtain ⟨r, hr⟩ := State.topJava?_eq_some.mp hg0
  have hr' : (({ U with heap := s₂.heap, slotsUsed := s₂.slotsUsed } : State).setVm s₂.vm).frames = .java g₀ :: r := hr
  rcases hq' with ⟨hqc, L, hfe, hL⟩ | ⟨q, rfl, E, ce, L, hx, hce, hcv, hcl, hW₂, hsm, hL⟩
  · obtain ⟨⟨v, rfl⟩, hW₂, e2, q2, q3, q4, q5, q6⟩ := id hfe
    have e3 : s₂ = ({ (U.calling g mk a).setFrames s₂.frames with heap := s₂.heap, slotsUsed := s₂.slotsUsed } : State).setVm s₂.vm := by
      have : s₂ = ({ s₂ with vm := (U.calling g mk a).vm } : State).setVm s₂.vm := rfl
      rw [e2] at this
      exact this
    obtain ⟨c₂, i₂, len₂, hc₂, hd₂, hf₂⟩ := hend
    have hW' : U.WarmedH s₂.vm := hW₂
    have hcc : c₂ = c := by
      have h1 : s₂.code? g.method = U.code? g.method := by
        rw [State.code?_eq, State.code?_eq, hW'.alike.method?]
      exact Option.some.inj (hc₂.symm.trans (h1.trans h.code))
    subst hcc
    have hlen : len₂ = len := by rw [hdg] at hd₂; cases hd₂; rfl
    subst hlen
    have hs₂ : s₂ = (({ U with heap := s₂.heap, slotsUsed := s₂.slotsUsed } : State).setVm s₂.vm).setTop { g with pc := g.pc + len₂, stack := v.toList ++ g.stack } := by
      refine e3.trans ?_
      rw [hf₂, State.calling_eq h.top, State.setFrames_setFrames, State.setTop_of_frames _ hr', hr]
      rfl
    have hsame : U.sameButNew ({ U with heap := s₂.heap, slotsUsed := s₂.slotsUsed } : State) L mc ms := by
      refine ⟨?_, q2, q3, q4, q5, q6⟩
      obtain ⟨t, ht, -⟩ := State.frames_cons hr
      show ({ U with heap := s₂.heap, slotsUsed := s₂.slotsUsed } : State) = { U.setFrames U.frames with heap := s₂.heap, slotsUsed := s₂.slotsUsed }
      rw [State.setFrames_self ht]
    subst hg
    refine Or.inl ⟨v, ⟨(({ U with heap := s₂.heap, slotsUsed := s₂.slotsUsed } : State).setVm s₂.vm), Ls ++ L, c0 + mc, s0 + ms⟩,
      ⟨X.admits, X.cas, X.clock, X.frames, X.room, X.hears, X.method, X.code, (X.here.setHeapUsed s₂.heap s₂.slotsUsed).setVm hW'.alike, X.tail, State.WarmedH.trans X.warmed hW', X.limits, X.bytes, X.same.trans (hsame.setVm s.vm)⟩,
      ⟨g, mk, s₂, L, rfl, rfl, hqc, rfl, hL, rfl, rfl⟩, ?_⟩
    show Steps p.tables e below _ ((({ U with heap := s₂.heap, slotsUsed := s₂.slotsUsed } : State).setVm s₂.vm).setTop { g with pc := g.pc + len₂, stack := v.toList ++ g.stack })
    rw [← hs₂]
    exact hsteps
  · obtain ⟨e2, q2, q3, q4, q5, q6⟩ := id hsm
    have e3 : s₂ = ({ (U.calling g mk a).setFrames s₂.frames with heap := s₂.heap, slotsUsed := s₂.slotsUsed } : State).setVm s₂.vm := by
      have : s₂ = ({ s₂ with vm := (U.calling g mk a).vm } : State).setVm s₂.vm := rfl
      rw [e2] at this
      exact this
    have hf₂ : s₂.frames = .throwing q :: .java g :: U.frames.tail := hend
    have hW' : U.WarmedH s₂.vm := hW₂
    have hs₂ : s₂ = ((({ U with heap := s₂.heap, slotsUsed := s₂.slotsUsed } : State).setVm s₂.vm).setTop g).pushFrame (.throwing q) := by
      refine e3.trans ?_
      rw [hf₂, State.calling_eq h.top, State.setFrames_setFrames, State.pushFrame, State.frames_setTop _ hr', State.setTop_of_frames _ hr', State.setFrames_setFrames, hr]
      rfl
    have hsame : U.sameButNew ({ U with heap := s₂.heap, slotsUsed := s₂.slotsUsed } : State) L mc ms := by
      refine ⟨?_, q2, q3, q4, q5, q6⟩
      obtain ⟨t, ht, -⟩ := State.frames_cons hr
      show ({ U with heap := s₂.heap, slotsUsed := s₂.slotsUsed } : State) = { U.setFrames U.frames with heap := s₂.heap, slotsUsed := s₂.slotsUsed }
      rw [State.setFrames_self ht]
    subst hg
    refine Or.inr ⟨q, ⟨(({ U with heap := s₂.heap, slotsUsed := s₂.slotsUsed } : State).setVm s₂.vm), Ls ++ L, c0 + mc, s0 + ms⟩,
      ⟨X.admits, X.cas, X.clock, X.frames, X.room, X.hears, X.method, X.code, (X.here.setHeapUsed s₂.heap s₂.slotsUsed).setVm hW'.alike, X.tail, State.WarmedH.trans X.warmed hW', X.limits, X.bytes, X.same.trans (hsame.setVm s.vm)⟩,
      ⟨g, mk, s₂, L, E, ce, rfl, rfl, hx, hce, hcv, hcl, rfl, hL, rfl, rfl⟩, ?_⟩
    show Steps p.tables e below _ (((({ U with heap := s₂.heap, slotsUsed := s₂.slotsUsed } : State).setVm s₂.vm).setTop g).pushFrame (.throwing q))
    rw [← hs₂]
    exact hsteps
end Payer
section Calls
variable {p : Program} {l : Launch} {e : Env} {R : Room} {s : State} {m : MethodId} {args : Array Value} {below : List Frame} {meth : Method} {c : Code} {T : State} {locs : List Loc} {cells slots : Nat}
theorem vx_callV (X : Stand p l e R s m args below meth c T locs cells slots) (hexec : p.tables.exec = Jvm.exec) {own C : String} {index : Nat} {y : MethodName} {bytes : ByteArray} {maxL : Nat} {ret : Option FieldType}
    (hown : s.vm.findClass own = some m.cls) (hlink : (Cond.methodLink own index y).before args s = true) (hinst : (Cond.instanceMethod y).before args s = true) (hsel : (Cond.selects C y y).before args s = true)
    (hcode : (Cond.code y bytes maxL ret).before args s = true) (hy : y.cls ≠ "java/lang/invoke/MethodHandle" ∧ y.cls ≠ "java/lang/invoke/VarHandle")
    {W9 : Nat} {Pre : Pt → Array Value → Prop} {Post : Pt → Array Value → Option Value → Pt → Prop} {PostX : Pt → Array Value → Addr → Pt → Prop} (hK : vx_Back l R p e below s args y 3 W9 Pre Post PostX)
    {b : Addr} {cellB : Cell} (hcell : T.heap[b]? = some cellB) (hobj : cellB.vm.isStatics = false) (hcls : s.vm.findClass C = some cellB.cls)
    {g : JFrame} (hg : g.method = m) (hsize : g.locals.size = c.maxLocals) {argsL rest : List Value} (hlen : ∀ sig, parseMethodDescriptor y.desc = some sig → argsL.length = sig.parameters.length)
    (hstack : g.stack = argsL.reverse ++ .ref b :: rest) (hW : 2 * g.monitorRoom + (rest.map fun v => v.category).sum ≤ W9) (hdg : decode c.code g.pc = .ok (.invokevirtual index, 3))
    (hpre : ∀ vm₁, s.WarmedH vm₁ → Pre ⟨T.setVm vm₁, locs, cells, slots⟩ (Value.ref b :: argsL).toArray) :
    (∃ (v : Option Value) (vm₁ : Vm) (B : Pt), s.WarmedH vm₁ ∧ Stand p l e R s m args below meth c B.U B.locs B.cells B.slots ∧ Post ⟨T.setVm vm₁, locs, cells, slots⟩ (Value.ref b :: argsL).toArray v B ∧
      ∀ target, Steps p.tables e below (B.U.setTop { g with pc := g.pc + 3, stack := v.toList ++ rest }) target → Steps p.tables e below (T.setTop g) target) ∨
    (∃ (q : Addr) (vm₁ : Vm) (B : Pt), s.WarmedH vm₁ ∧ Stand p l e R s m args below meth c B.U B.locs B.cells B.slots ∧ PostX ⟨T.setVm vm₁, locs, cells, slots⟩ (Value.ref b :: argsL).toArray q B ∧
      Steps p.tables e below (T.setTop g) ((B.U.setTop { g with stack := rest }).pushFrame (.throwing q))) := by
  obtain ⟨mk, methM, hnamed, hmethM, hstM, habM⟩ := Cond.instanceMethod_spec hinst
  obtain ⟨methM', cM, hmethM', -, -, -, -, -, -, hsigM⟩ := Cond.code_spec hnamed hcode
  cases hmethM.symm.trans hmethM'
  obtain ⟨c2, r2, m2, q1, q2, q3, q4, kP, hkP, hkPi⟩ := Cond.selects_spec hsel
  cases hcls.symm.trans q1
  cases (State.methodFound?_of_named hnamed hy).symm.trans q2
  cases hnamed.symm.trans q3
  have hselP : selectMethod e.platform s.vm cellB.cls mk = .method mk := by rw [Launch.admits_selectMethod X.admits]; exact q4
  obtain ⟨vm₁, X₁, hstep₁⟩ := X.invokevirtual hexec hown hlink hnamed hmethM hstM hkP hkPi hy (a := b) (cell := cellB) hcell
    (fun z h => by rw [h] at hobj; cases hobj) hselP hmethM habM hkP hkPi (g := g) hg (argsL := argsL) (rest := rest) (hlen _ hsigM) hstack hdg
  rcases hK m meth c ⟨T.setVm vm₁, locs, cells, slots⟩ { g with stack := rest } (.invokevirtual index) mk (Value.ref b :: argsL).toArray X₁ hg hsize hdg hW (X₁.named hnamed) (hpre vm₁ X₁.warmed) with ⟨v, B, X', hpost, hsteps⟩ | ⟨q, B, X', hpost, hsteps⟩
  · exact Or.inl ⟨v, vm₁, B, X₁.warmed, X', hpost, fun target h => hstep₁ _ fun acts => by rw [doInvoke_state]; exact hsteps.trans h⟩
  · exact Or.inr ⟨q, vm₁, B, X₁.warmed, X', hpost, hstep₁ _ fun acts => by rw [doInvoke_state]; exact hsteps⟩
theorem vx_callS (X : Stand p l e R s m args below meth c T locs cells slots) (hexec : p.tables.exec = Jvm.exec) {own : String} {index : Nat} {y : MethodName} {bytes : ByteArray} {maxL : Nat} {ret : Option FieldType}
    (hown : s.vm.findClass own = some m.cls) (hlink : (Cond.methodLink own index y).before args s = true) (hstat : (Cond.static y).before args s = true) (hinit : (Cond.initialized y.cls).before args s = true)
    (hcode : (Cond.code y bytes maxL ret).before args s = true) (hy : y.cls ≠ "java/lang/invoke/MethodHandle" ∧ y.cls ≠ "java/lang/invoke/VarHandle")
    {W9 : Nat} {Pre : Pt → Array Value → Prop} {Post : Pt → Array Value → Option Value → Pt → Prop} {PostX : Pt → Array Value → Addr → Pt → Prop} (hK : vx_Back l R p e below s args y 3 W9 Pre Post PostX)
    {g : JFrame} (hg : g.method = m) (hsize : g.locals.size = c.maxLocals) {argsL rest : List Value} (hlen : ∀ sig, parseMethodDescriptor y.desc = some sig → argsL.length = sig.parameters.length)
    (hstack : g.stack = argsL.reverse ++ rest) (hW : 2 * g.monitorRoom + (rest.map fun v => v.category).sum ≤ W9) (hdg : decode c.code g.pc = .ok (.invokestatic index, 3))
    (hpre : ∀ vm₁, s.WarmedH vm₁ → Pre ⟨T.setVm vm₁, locs, cells, slots⟩ argsL.toArray) :
    (∃ (v : Option Value) (vm₁ : Vm) (B : Pt), s.WarmedH vm₁ ∧ Stand p l e R s m args below meth c B.U B.locs B.cells B.slots ∧ Post ⟨T.setVm vm₁, locs, cells, slots⟩ argsL.toArray v B ∧
      ∀ target, Steps p.tables e below (B.U.setTop { g with pc := g.pc + 3, stack := v.toList ++ rest }) target → Steps p.tables e below (T.setTop g) target) ∨
    (∃ (q : Addr) (vm₁ : Vm) (B : Pt), s.WarmedH vm₁ ∧ Stand p l e R s m args below meth c B.U B.locs B.cells B.slots ∧ PostX ⟨T.setVm vm₁, locs, cells, slots⟩ argsL.toArray q B ∧
      Steps p.tables e below (T.setTop g) ((B.U.setTop { g with stack := rest }).pushFrame (.throwing q))) := by
  obtain ⟨mk, hnamed⟩ := Cond.code_named hcode
  obtain ⟨methM, cM, hmethM, -, -, -, -, -, -, hsigM⟩ := Cond.code_spec hnamed hcode
  have hstatic : methM.isStatic = true := Cond.static_spec hnamed hmethM hstat
  obtain ⟨kP, hkP, -⟩ := className_of_methodNamed hnamed
  have hinitP : kP.init = .initialized := Cond.initialized_spec (findClass_of_methodNamed hnamed) hkP hinit
  obtain ⟨vm₁, X₁, hstep₁⟩ := X.invokestatic hexec hown hlink hnamed hmethM hstatic hkP hinitP hy (g := g) hg (argsL := argsL) (rest := rest) (hlen _ hsigM) hstack hdg
  rcases hK m meth c ⟨T.setVm vm₁, locs, cells, slots⟩ { g with stack := rest } (.invokestatic index) mk argsL.toArray X₁ hg hsize hdg hW (X₁.named hnamed) (hpre vm₁ X₁.warmed) with ⟨v, B, X', hpost, hsteps⟩ | ⟨q, B, X', hpost, hsteps⟩
  · exact Or.inl ⟨v, vm₁, B, X₁.warmed, X', hpost, fun target h => hstep₁ _ fun acts => by rw [doInvoke_state]; exact hsteps.trans h⟩
  · exact Or.inr ⟨q, vm₁, B, X₁.warmed, X', hpost, hstep₁ _ fun acts => by rw [doInvoke_state]; exact hsteps⟩
end Calls
theorem vx_cls {s : State} {T : State} {vm₁ : Vm} {E : String} {k : ClassId} (hW : s.WarmedH vm₁) (h : (T.setVm vm₁).vm.findClass E = some k) : s.vm.findClass E = some k := by
  have h1 : vm₁.findClass E = some k := h
  rw [hW.alike.findClass] at h1
  exact h1
/-- the method's frame g, with q thrown over it -/
def vx_W (p : Program) (l : Launch) (e : Env) (R : Room) (s : State) (m : MethodId) (args : Array Value) (below : List Frame) (meth : Method) (c : Code) (H : Heap) (locs : List Loc) (cells slots : Nat) (Q : State → Prop) (g : JFrame) (q : Addr) : Prop :=
  ∀ T : State, T.heap = H → Stand p l e R s m args below meth c T locs cells slots → ∃ t, Steps p.tables e below ((T.setTop g).pushFrame (.throwing q)) t ∧ Q t
def vx_Run (p : Program) (l : Launch) (e : Env) (R : Room) (s : State) (m : MethodId) (args : Array Value) (below : List Frame) (meth : Method) (c : Code) (H : Heap) (locs : List Loc) (cells slots mc ms : Nat) (g : JFrame) (rest : List Value) (Qa : State → Outcome → State → Prop) (XC : String → State → State → Prop) (free : Addr → Prop) : Prop :=
  ∀ T : State, T.heap = H → Stand p l e R s m args below meth c T locs cells slots →
    (∃ (v : Option Value) (st₀ t T' : State) (L : List Loc), st₀.heap = H ∧ Stand p l e R s m args below meth c T' (locs ++ L) (cells + mc) (slots + ms) ∧ (∀ q ∈ L, free q.base) ∧ T'.heap = t.heap ∧ T'.vm = t.vm ∧ Qa st₀ (.returned v) t ∧
      Goes p e below T g T' { g with pc := g.pc + 3, stack := v.toList ++ rest }) ∨
    (∃ (q : Addr) (st₀ t T' : State) (L : List Loc) (E : String) (ce : Cell), st₀.heap = H ∧ Stand p l e R s m args below meth c T' (locs ++ L) (cells + mc) (slots + ms) ∧ (∀ z ∈ L, free z.base) ∧ T'.heap = t.heap ∧ T'.vm = t.vm ∧ XC E st₀ t ∧ t.heap[q]? = some ce ∧ ce.vm = .none ∧ s.vm.findClass E = some ce.cls ∧
      Steps p.tables e below (T.setTop g) ((T'.setTop { g with stack := rest }).pushFrame (.throwing q)))
def vx_X {S : Type} (px : S → Prop) (B : String → S → State → Prop) (A : Nat → Prop) : String → State → State → Prop := fun E st t => ∃ u : S, px u ∧ B E u t ∧ va_F A st t
section Runs
variable {p : Program} {l : Launch} {e : Env} {R : Room} {s : State} {m : MethodId} {args : Array Value} {below : List Frame} {meth : Method} {c : Code} {H : Heap} {locs : List Loc} {cells slots : Nat}
variable {y : MethodName} {bytes cc : ByteArray} {maxL nL mc ms n index : Nat} {ret : Option FieldType} {ws : List Cond} {rm : Room} {Pc : Array Value → State → Prop} {Qc : Array Value → State → Outcome → State → Prop} {XC : String → State → State → Prop} {free : Addr → Prop} {Ts : List Cond} {own C : String} {b : Addr} {As rest : List Value} {g : JFrame}
theorem vx_callBack (cb : CallB R s args own index y bytes maxL ret ws rm mc ms n) (hM : vx_Met l y ws rm Pc Qc XC mc ms free) (hbl : FrameBlind Pc) : vx_Back l R p e below s args y 3 8 (PreOf R mc ms Pc) (PostOf Qc mc ms free) (vx_Post XC mc ms free) := by
  obtain ⟨hrc, hrs, hfr, hlo, hws, hcw, -, hini, -⟩ := cb
  exact vx_back (bytes := bytes) (maxL := maxL) (ret := ret) hM hbl hrc hrs hfr hlo hws hcw (fun a' U hW => word_at hW (Or.inl (by first | rfl | simp [Cond.onTables, Cond.keeps, Cond.steady])) hini)
theorem vx_runV (S : CallFix p m c cc nL s args Ts own) (hM : vx_Met l y ws rm Pc Qc XC mc ms free) (cw : CallW R s args own C index y bytes maxL ret ws rm mc ms n) (hp : PreV s H C b Pc As)
    (hg : g.method = m) (hn : As.length = n) (hsize : g.locals.size = nL) (hstack : g.stack = As.reverse ++ .ref b :: rest) (hW : 2 * g.monitorRoom + (rest.map fun v => v.category).sum ≤ 8) (hdg : decode cc g.pc = .ok (.invokevirtual index, 3)) (hf : cells + mc ≤ R.cells ∧ slots + ms ≤ R.slots) :
    vx_Run p l e R s m args below meth c H locs cells slots mc ms g rest (Qc (Value.ref b :: As).toArray) XC free := by
  have hK : vx_Back l R p e below s args y 3 8 (PreOf R mc ms Pc) (PostOf Qc mc ms free) (vx_Post XC mc ms free) := vx_callBack cw.1 hM hp.1
  obtain ⟨⟨-, -, -, -, -, -, hcode, -, hy, hlen, hl⟩, hin, hse⟩ := cw
  obtain ⟨hx, hb, hml, ho, -⟩ := S
  obtain ⟨-, ⟨cellB, hcB, hoB, hclB⟩, hPc⟩ := hp
  intro T hT X
  rcases vx_callV X hx (C := C) (bytes := bytes) (maxL := maxL) (ret := ret) ho hl hin hse hcode hy hK (by rw [hT]; exact hcB) hoB hclB hg (hsize.trans hml.symm) (argsL := As) (rest := rest) (fun sig h => hn.trans (hlen sig h)) hstack hW (by rw [hb]; exact hdg)
    (fun vm₁ hW₁ => ⟨hf.1, hf.2, hPc (T.setVm vm₁) hT hW₁⟩) with ⟨v, vm₁, ⟨U', l2, c2, s2⟩, hW₁, X', ⟨g', mk, t, L, e1, e2, hq, h1, hL, h2, h3⟩, st⟩ | ⟨q, vm₁, ⟨U', l2, c2, s2⟩, hW₁, X', ⟨g', mk, t, L, E, ce, e1, e2, hq, hce, hcv, hcl, h1, hL, h2, h3⟩, st⟩
  · dsimp only [Pt.U, Pt.locs, Pt.cells, Pt.slots] at X' e1 e2 h1 h2 h3 st
    subst h1; subst h2; subst h3
    exact Or.inl ⟨v, (T.setVm vm₁).calling g' mk (Value.ref b :: As).toArray, t, U', L, hT, X', hL, e1, e2, hq, st⟩
  · dsimp only [Pt.U, Pt.locs, Pt.cells, Pt.slots] at X' e1 e2 h1 h2 h3 st hcl
    subst h1; subst h2; subst h3
    exact Or.inr ⟨q, (T.setVm vm₁).calling g' mk (Value.ref b :: As).toArray, t, U', L, E, ce, hT, X', hL, e1, e2, hq, hce, hcv, vx_cls hW₁ hcl, st⟩
theorem vx_runS (S : CallFix p m c cc nL s args Ts own) (hM : vx_Met l y ws rm Pc Qc XC mc ms free) (cw : CallB R s args own index y bytes maxL ret ws rm mc ms n ∧ (Cond.static y).before args s = true) (hp : PreS s H Pc As)
    (hg : g.method = m) (hn : As.length = n) (hsize : g.locals.size = nL) (hstack : g.stack = As.reverse ++ rest) (hW : 2 * g.monitorRoom + (rest.map fun v => v.category).sum ≤ 8) (hdg : decode cc g.pc = .ok (.invokestatic index, 3)) (hf : cells + mc ≤ R.cells ∧ slots + ms ≤ R.slots) :
    vx_Run p l e R s m args below meth c H locs cells slots mc ms g rest (Qc As.toArray) XC free := by
  have hK : vx_Back l R p e below s args y 3 8 (PreOf R mc ms Pc) (PostOf Qc mc ms free) (vx_Post XC mc ms free) := vx_callBack cw.1 hM hp.1
  obtain ⟨⟨-, -, -, -, -, -, hcode, hini, hy, hlen, hl⟩, hstt⟩ := cw
  obtain ⟨hx, hb, hml, ho, -⟩ := S
  intro T hT X
  rcases vx_callS X hx (bytes := bytes) (maxL := maxL) (ret := ret) ho hl hstt hini hcode hy hK hg (hsize.trans hml.symm) (argsL := As) (rest := rest) (fun sig h => hn.trans (hlen sig h)) hstack hW (by rw [hb]; exact hdg)
    (fun vm₁ hW₁ => ⟨hf.1, hf.2, hp.2 (T.setVm vm₁) hT hW₁⟩) with ⟨v, vm₁, ⟨U', l2, c2, s2⟩, hW₁, X', ⟨g', mk, t, L, e1, e2, hq, h1, hL, h2, h3⟩, st⟩ | ⟨q, vm₁, ⟨U', l2, c2, s2⟩, hW₁, X', ⟨g', mk, t, L, E, ce, e1, e2, hq, hce, hcv, hcl, h1, hL, h2, h3⟩, st⟩
  · dsimp only [Pt.U, Pt.locs, Pt.cells, Pt.slots] at X' e1 e2 h1 h2 h3 st
    subst h1; subst h2; subst h3
    exact Or.inl ⟨v, (T.setVm vm₁).calling g' mk As.toArray, t, U', L, hT, X', hL, e1, e2, hq, st⟩
  · dsimp only [Pt.U, Pt.locs, Pt.cells, Pt.slots] at X' e1 e2 h1 h2 h3 st hcl
    subst h1; subst h2; subst h3
    exact Or.inr ⟨q, (T.setVm vm₁).calling g' mk As.toArray, t, U', L, E, ce, hT, X', hL, e1, e2, hq, hce, hcv, vx_cls hW₁ hcl, st⟩
end Runs
section Rows
variable {p : Program} {l : Launch} {e : Env} {R : Room} {s : State} {m : MethodId} {args : Array Value} {below : List Frame} {meth : Method} {c : Code} {H : Heap} {locs : List Loc} {cells slots : Nat} {Q : State → Prop}
variable {mc ms : Nat} {free : Addr → Prop} {A0 A1 : Nat → Prop} {H0 : Heap} {a : Array Value} {pc : Nat} {ls : Array Slot} {st0 rest : List Value}
theorem vx_keep {st₀ t T' : State} {L : List Loc} (h0 : st₀.heap = H) (e1 : T'.heap = t.heap) (hS : va_S A0 H0 H locs) (hA : ∀ q, q < H.size → A1 q → A0 q) (hf : ∀ q, free q → A0 q) (hL : ∀ q ∈ L, free q.base) (hF : va_F A1 st₀ t) :
    H.size ≤ T'.heap.size ∧ (∀ q : Nat, q < H.size → ¬ A1 q → T'.heap[q]? = H[q]?) ∧ va_S A0 H0 T'.heap (locs ++ L) := by
  obtain ⟨hz, hk⟩ := hF
  rw [h0] at hz hk
  exact ⟨by rw [e1]; exact hz, fun q h1 h2 => by rw [e1]; exact hk q h1 h2,
    ⟨Nat.le_trans hS.1 (by rw [e1]; exact hz), fun q h1 h2 => by rw [e1, hk q (Nat.lt_of_lt_of_le h1 hS.1) (fun z => h2 (hA q (Nat.lt_of_lt_of_le h1 hS.1) z))]; exact hS.2.1 q h1 h2, fun q hq => by
      rcases List.mem_append.mp hq with h | h
      · exact hS.2.2 q h
      · exact hf _ (hL q h)⟩⟩
theorem vx_calli {S SX : Type} {post : Int32 → S → Prop} {px : SX → Prop} {B : S → State → Prop} {BX : String → SX → State → Prop} {AX : Nat → Prop} (hr : vx_Run p l e R s m args below meth c H locs cells slots mc ms (F0 m pc ls st0) rest (va_Qi post B A1 a) (vx_X px BX AX) free) (hS : va_S A0 H0 H locs) (hA : ∀ q, q < H.size → A1 q → A0 q) (hf : ∀ q, free q → A0 q) (hAX : ∀ q, q < H.size → AX q → A0 q)
    (kx : ∀ (E : String) (ce : Cell) (q9 : Addr) (u : SX) (t : State) (H1 : Heap) (locs1 : List Loc), t.heap = H1 → s.vm.Alike t.vm → px u → BX E u t → H.size ≤ H1.size → (∀ q : Nat, q < H.size → ¬ AX q → H1[q]? = H[q]?) → va_S A0 H0 H1 locs1 → H1[q9]? = some ce → ce.vm = .none → s.vm.findClass E = some ce.cls → vx_W p l e R s m args below meth c H1 locs1 (cells + mc) (slots + ms) Q (F0 m pc ls rest) q9)
    (kk : ∀ (r : Int32) (u : S) (t : State) (H1 : Heap) (locs1 : List Loc), t.heap = H1 → s.vm.Alike t.vm → post r u → B u t → H.size ≤ H1.size → (∀ q : Nat, q < H.size → ¬ A1 q → H1[q]? = H[q]?) → va_S A0 H0 H1 locs1 → W p l e R s m args below meth c H1 locs1 (cells + mc) (slots + ms) Q (F0 m (pc + 3) ls (.int r :: rest))) : W p l e R s m args below meth c H locs cells slots Q (F0 m pc ls st0) := by
  intro T hT X
  rcases hr T hT X with ⟨v, st₀, t, T', L, h0, X', hL, e1, e2, ⟨⟨r, u, hv, hp, hb⟩, hF⟩, st⟩ | ⟨q, st₀, t, T', L, E, ce, h0, X', hL, e1, e2, ⟨u, hp, hb, hF⟩, hce, hcv, hcl, st⟩
  · cases hv
    obtain ⟨k1, k2, k3⟩ := vx_keep h0 e1 hS hA hf hL hF
    obtain ⟨t2, a1, b1⟩ := kk r u t T'.heap (locs ++ L) e1.symm (by rw [← e2]; exact X'.warmed.alike) hp hb k1 k2 k3 T' rfl X'
    exact ⟨t2, st t2 a1, b1⟩
  · obtain ⟨k1, k2, k3⟩ := vx_keep h0 e1 hS hAX hf hL hF
    obtain ⟨t2, a1, b1⟩ := kx E ce q u t T'.heap (locs ++ L) e1.symm (by rw [← e2]; exact X'.warmed.alike) hp hb k1 k2 k3 (by rw [e1]; exact hce) hcv hcl T' rfl X'
    exact ⟨t2, st.trans a1, b1⟩
theorem vx_calll {S SX : Type} {post : Int64 → S → Prop} {px : SX → Prop} {B : S → State → Prop} {BX : String → SX → State → Prop} {AX : Nat → Prop} (hr : vx_Run p l e R s m args below meth c H locs cells slots mc ms (F0 m pc ls st0) rest (va_Ql post B A1 a) (vx_X px BX AX) free) (hS : va_S A0 H0 H locs) (hA : ∀ q, q < H.size → A1 q → A0 q) (hf : ∀ q, free q → A0 q) (hAX : ∀ q, q < H.size → AX q → A0 q)
    (kx : ∀ (E : String) (ce : Cell) (q9 : Addr) (u : SX) (t : State) (H1 : Heap) (locs1 : List Loc), t.heap = H1 → s.vm.Alike t.vm → px u → BX E u t → H.size ≤ H1.size → (∀ q : Nat, q < H.size → ¬ AX q → H1[q]? = H[q]?) → va_S A0 H0 H1 locs1 → H1[q9]? = some ce → ce.vm = .none → s.vm.findClass E = some ce.cls → vx_W p l e R s m args below meth c H1 locs1 (cells + mc) (slots + ms) Q (F0 m pc ls rest) q9)
    (kk : ∀ (r : Int64) (u : S) (t : State) (H1 : Heap) (locs1 : List Loc), t.heap = H1 → s.vm.Alike t.vm → post r u → B u t → H.size ≤ H1.size → (∀ q : Nat, q < H.size → ¬ A1 q → H1[q]? = H[q]?) → va_S A0 H0 H1 locs1 → W p l e R s m args below meth c H1 locs1 (cells + mc) (slots + ms) Q (F0 m (pc + 3) ls (.long r :: rest))) : W p l e R s m args below meth c H locs cells slots Q (F0 m pc ls st0) := by
  intro T hT X
  rcases hr T hT X with ⟨v, st₀, t, T', L, h0, X', hL, e1, e2, ⟨⟨r, u, hv, hp, hb⟩, hF⟩, st⟩ | ⟨q, st₀, t, T', L, E, ce, h0, X', hL, e1, e2, ⟨u, hp, hb, hF⟩, hce, hcv, hcl, st⟩
  · cases hv
    obtain ⟨k1, k2, k3⟩ := vx_keep h0 e1 hS hA hf hL hF
    obtain ⟨t2, a1, b1⟩ := kk r u t T'.heap (locs ++ L) e1.symm (by rw [← e2]; exact X'.warmed.alike) hp hb k1 k2 k3 T' rfl X'
    exact ⟨t2, st t2 a1, b1⟩
  · obtain ⟨k1, k2, k3⟩ := vx_keep h0 e1 hS hAX hf hL hF
    obtain ⟨t2, a1, b1⟩ := kx E ce q u t T'.heap (locs ++ L) e1.symm (by rw [← e2]; exact X'.warmed.alike) hp hb k1 k2 k3 (by rw [e1]; exact hce) hcv hcl T' rfl X'
    exact ⟨t2, st.trans a1, b1⟩
theorem vx_callf {S SX : Type} {post : UInt32 → S → Prop} {px : SX → Prop} {B : S → State → Prop} {BX : String → SX → State → Prop} {AX : Nat → Prop} (hr : vx_Run p l e R s m args below meth c H locs cells slots mc ms (F0 m pc ls st0) rest (va_Qf post B A1 a) (vx_X px BX AX) free) (hS : va_S A0 H0 H locs) (hA : ∀ q, q < H.size → A1 q → A0 q) (hf : ∀ q, free q → A0 q) (hAX : ∀ q, q < H.size → AX q → A0 q)
    (kx : ∀ (E : String) (ce : Cell) (q9 : Addr) (u : SX) (t : State) (H1 : Heap) (locs1 : List Loc), t.heap = H1 → s.vm.Alike t.vm → px u → BX E u t → H.size ≤ H1.size → (∀ q : Nat, q < H.size → ¬ AX q → H1[q]? = H[q]?) → va_S A0 H0 H1 locs1 → H1[q9]? = some ce → ce.vm = .none → s.vm.findClass E = some ce.cls → vx_W p l e R s m args below meth c H1 locs1 (cells + mc) (slots + ms) Q (F0 m pc ls rest) q9)
    (kk : ∀ (r : UInt32) (u : S) (t : State) (H1 : Heap) (locs1 : List Loc), t.heap = H1 → s.vm.Alike t.vm → post r u → B u t → H.size ≤ H1.size → (∀ q : Nat, q < H.size → ¬ A1 q → H1[q]? = H[q]?) → va_S A0 H0 H1 locs1 → W p l e R s m args below meth c H1 locs1 (cells + mc) (slots + ms) Q (F0 m (pc + 3) ls (.float r :: rest))) : W p l e R s m args below meth c H locs cells slots Q (F0 m pc ls st0) := by
  intro T hT X
  rcases hr T hT X with ⟨v, st₀, t, T', L, h0, X', hL, e1, e2, ⟨⟨r, u, hv, hp, hb⟩, hF⟩, st⟩ | ⟨q, st₀, t, T', L, E, ce, h0, X', hL, e1, e2, ⟨u, hp, hb, hF⟩, hce, hcv, hcl, st⟩
  · cases hv
    obtain ⟨k1, k2, k3⟩ := vx_keep h0 e1 hS hA hf hL hF
    obtain ⟨t2, a1, b1⟩ := kk r u t T'.heap (locs ++ L) e1.symm (by rw [← e2]; exact X'.warmed.alike) hp hb k1 k2 k3 T' rfl X'
    exact ⟨t2, st t2 a1, b1⟩
  · obtain ⟨k1, k2, k3⟩ := vx_keep h0 e1 hS hAX hf hL hF
    obtain ⟨t2, a1, b1⟩ := kx E ce q u t T'.heap (locs ++ L) e1.symm (by rw [← e2]; exact X'.warmed.alike) hp hb k1 k2 k3 (by rw [e1]; exact hce) hcv hcl T' rfl X'
    exact ⟨t2, st.trans a1, b1⟩
theorem vx_calld {S SX : Type} {post : UInt64 → S → Prop} {px : SX → Prop} {B : S → State → Prop} {BX : String → SX → State → Prop} {AX : Nat → Prop} (hr : vx_Run p l e R s m args below meth c H locs cells slots mc ms (F0 m pc ls st0) rest (va_Qd post B A1 a) (vx_X px BX AX) free) (hS : va_S A0 H0 H locs) (hA : ∀ q, q < H.size → A1 q → A0 q) (hf : ∀ q, free q → A0 q) (hAX : ∀ q, q < H.size → AX q → A0 q)
    (kx : ∀ (E : String) (ce : Cell) (q9 : Addr) (u : SX) (t : State) (H1 : Heap) (locs1 : List Loc), t.heap = H1 → s.vm.Alike t.vm → px u → BX E u t → H.size ≤ H1.size → (∀ q : Nat, q < H.size → ¬ AX q → H1[q]? = H[q]?) → va_S A0 H0 H1 locs1 → H1[q9]? = some ce → ce.vm = .none → s.vm.findClass E = some ce.cls → vx_W p l e R s m args below meth c H1 locs1 (cells + mc) (slots + ms) Q (F0 m pc ls rest) q9)
    (kk : ∀ (r : UInt64) (u : S) (t : State) (H1 : Heap) (locs1 : List Loc), t.heap = H1 → s.vm.Alike t.vm → post r u → B u t → H.size ≤ H1.size → (∀ q : Nat, q < H.size → ¬ A1 q → H1[q]? = H[q]?) → va_S A0 H0 H1 locs1 → W p l e R s m args below meth c H1 locs1 (cells + mc) (slots + ms) Q (F0 m (pc + 3) ls (.double r :: rest))) : W p l e R s m args below meth c H locs cells slots Q (F0 m pc ls st0) := by
  intro T hT X
  rcases hr T hT X with ⟨v, st₀, t, T', L, h0, X', hL, e1, e2, ⟨⟨r, u, hv, hp, hb⟩, hF⟩, st⟩ | ⟨q, st₀, t, T', L, E, ce, h0, X', hL, e1, e2, ⟨u, hp, hb, hF⟩, hce, hcv, hcl, st⟩
  · cases hv
    obtain ⟨k1, k2, k3⟩ := vx_keep h0 e1 hS hA hf hL hF
    obtain ⟨t2, a1, b1⟩ := kk r u t T'.heap (locs ++ L) e1.symm (by rw [← e2]; exact X'.warmed.alike) hp hb k1 k2 k3 T' rfl X'
    exact ⟨t2, st t2 a1, b1⟩
  · obtain ⟨k1, k2, k3⟩ := vx_keep h0 e1 hS hAX hf hL hF
    obtain ⟨t2, a1, b1⟩ := kx E ce q u t T'.heap (locs ++ L) e1.symm (by rw [← e2]; exact X'.warmed.alike) hp hb k1 k2 k3 (by rw [e1]; exact hce) hcv hcl T' rfl X'
    exact ⟨t2, st.trans a1, b1⟩
theorem vx_callv {S SX : Type} {post : S → Prop} {px : SX → Prop} {B : S → State → Prop} {BX : String → SX → State → Prop} {AX : Nat → Prop} (hr : vx_Run p l e R s m args below meth c H locs cells slots mc ms (F0 m pc ls st0) rest (va_Qv post B A1 a) (vx_X px BX AX) free) (hS : va_S A0 H0 H locs) (hA : ∀ q, q < H.size → A1 q → A0 q) (hf : ∀ q, free q → A0 q) (hAX : ∀ q, q < H.size → AX q → A0 q)
    (kx : ∀ (E : String) (ce : Cell) (q9 : Addr) (u : SX) (t : State) (H1 : Heap) (locs1 : List Loc), t.heap = H1 → s.vm.Alike t.vm → px u → BX E u t → H.size ≤ H1.size → (∀ q : Nat, q < H.size → ¬ AX q → H1[q]? = H[q]?) → va_S A0 H0 H1 locs1 → H1[q9]? = some ce → ce.vm = .none → s.vm.findClass E = some ce.cls → vx_W p l e R s m args below meth c H1 locs1 (cells + mc) (slots + ms) Q (F0 m pc ls rest) q9)
    (kk : ∀ (u : S) (t : State) (H1 : Heap) (locs1 : List Loc), t.heap = H1 → s.vm.Alike t.vm → post u → B u t → H.size ≤ H1.size → (∀ q : Nat, q < H.size → ¬ A1 q → H1[q]? = H[q]?) → va_S A0 H0 H1 locs1 → W p l e R s m args below meth c H1 locs1 (cells + mc) (slots + ms) Q (F0 m (pc + 3) ls (rest))) : W p l e R s m args below meth c H locs cells slots Q (F0 m pc ls st0) := by
  intro T hT X
  rcases hr T hT X with ⟨v, st₀, t, T', L, h0, X', hL, e1, e2, ⟨⟨u, hv, hp, hb⟩, hF⟩, st⟩ | ⟨q, st₀, t, T', L, E, ce, h0, X', hL, e1, e2, ⟨u, hp, hb, hF⟩, hce, hcv, hcl, st⟩
  · cases hv
    obtain ⟨k1, k2, k3⟩ := vx_keep h0 e1 hS hA hf hL hF
    obtain ⟨t2, a1, b1⟩ := kk u t T'.heap (locs ++ L) e1.symm (by rw [← e2]; exact X'.warmed.alike) hp hb k1 k2 k3 T' rfl X'
    exact ⟨t2, st t2 a1, b1⟩
  · obtain ⟨k1, k2, k3⟩ := vx_keep h0 e1 hS hAX hf hL hF
    obtain ⟨t2, a1, b1⟩ := kx E ce q u t T'.heap (locs ++ L) e1.symm (by rw [← e2]; exact X'.warmed.alike) hp hb k1 k2 k3 (by rw [e1]; exact hce) hcv hcl T' rfl X'
    exact ⟨t2, st.trans a1, b1⟩
/-- caught by the row x of this method's table; the rows ahead don't take it -/
theorem vx_catch {own name : String} {E : String} {ce : Cell} {q : Addr} (hown : s.vm.findClass own = some m.cls) (pre : List ExceptionTableEntry) (x : ExceptionTableEntry) (suf : List ExceptionTableEntry) (hsplit : c.exceptionTable.toList = pre ++ x :: suf)
    (hpass : ∀ z ∈ pre, covers z pc = false ∨ (z.catchType ≠ 0 ∧ ∃ nm : String, (Cond.classLink own z.catchType nm).before args s = true ∧ va_Nc E nm s)) (hx : covers x pc = true) (h0 : x.catchType ≠ 0)
    (hlink : (Cond.classLink own x.catchType name).before args s = true) (hcast : (Cond.castable E name).before args s = true) (hcell : H[q]? = some ce) (hv : ce.vm = .none) (hcl : s.vm.findClass E = some ce.cls)
    (kk : W p l e R s m args below meth c H locs cells slots Q (F0 m x.handlerPc ls [.ref q])) : vx_W p l e R s m args below meth c H locs cells slots Q (F0 m pc ls rest) q := by
  intro T hT X
  have hpl : e.platform.magicAccessors = ({} : Platform).magicAccessors := by rw [X.admits.platform]
  obtain ⟨c3, c4, hc3, hc4, hasg⟩ := Cond.castable_spec hcast
  cases Option.some.inj (hc3.symm.trans hcl)
  obtain ⟨c5, hc5, hcl5⟩ := Cond.classLink_spec hown hlink e.platform hpl
  cases Option.some.inj (hc4.symm.trans hc5)
  obtain ⟨vm', X', st⟩ := X.thenCaughtThrough q (g := F0 m pc ls rest) rfl (Steps.refl _) (by rw [hT]; exact hcell) (by rw [hv]; rfl) (by obtain ⟨k9, h9, -⟩ := Vm.findClass_spec hcl; exact ⟨k9, h9⟩) pre x suf hsplit
    (fun z hz => by
      rcases hpass z hz with h | ⟨hz0, nm, hl1, hn1⟩
      · exact Or.inl h
      · obtain ⟨c6, hc6, hcl6⟩ := Cond.classLink_spec hown hl1 e.platform hpl
        obtain ⟨a8, b8, h1, h2, h3⟩ := hn1
        cases Option.some.inj (h1.symm.trans hcl)
        cases Option.some.inj (h2.symm.trans hc6)
        exact Or.inr ⟨hz0, _, hcl6, h3⟩) hx (Or.inr ⟨h0, c4, hcl5, hasg⟩)
  obtain ⟨t, a1, b1⟩ := kk (T.setVm vm') hT X'
  exact ⟨t, st.trans a1, b1⟩
end Rows
section Ends
variable {p : Program} {l : Launch} {e : Env} {R : Room} {s : State} {m : MethodId} {args : Array Value} {below : List Frame} {meth : Method} {c : Code} {H : Heap} {locs : List Loc} {cells slots : Nat} {Q : State → Prop}
variable {mc ms : Nat} {free : Addr → Prop} {A0 A1 : Nat → Prop} {H0 : Heap} {a : Array Value} {ls : Array Slot} {st0 rest : List Value}
variable {Qc : Array Value → State → Outcome → State → Prop} {XC : String → State → State → Prop}
/-- what a body that may throw owes at its end -/
def vx_MQ (below : List Frame) (Qc : Array Value → State → Outcome → State → Prop) (XC : String → State → State → Prop) (a : Array Value) (s : State) (mc ms : Nat) (free : Addr → Prop) : State → Prop := fun t =>
  ∃ o, t.status = .running ∧ Ended t below o ∧ vx_Q Qc XC mc ms free a s o t
theorem vx_ret {g : JFrame} {mc ms : Nat} (k : W p l e R s m args below meth c H locs cells slots (MQ below Qc args s mc ms free) g) : W p l e R s m args below meth c H locs cells slots (vx_MQ below Qc XC args s mc ms free) g := by
  intro T hT X
  obtain ⟨t, a1, o, b1, b2, b3, b4⟩ := k T hT X
  exact ⟨t, a1, o, b1, b2, Or.inl ⟨b3, b4⟩⟩
/-- not caught here: it goes on to the caller -/
theorem vx_widen {g : JFrame} {q : Addr} {k n : Nat} (h1 : cells ≤ k) (h2 : slots ≤ n) (kk : vx_W p l e R s m args below meth c H locs k n Q g q) : vx_W p l e R s m args below meth c H locs cells slots Q g q := fun T hT X => kk T hT (stand_widen X h1 h2)
theorem vx_out {pc : Nat} {E : String} {ce : Cell} {q : Addr} {mc ms : Nat} (hout : ∀ x ∈ c.exceptionTable.toList, covers x pc = false) (hlocks : meth.locks = false) (hcell : H[q]? = some ce) (hv : ce.vm = .none) (hcl : s.vm.findClass E = some ce.cls)
    (hx : ∀ t : State, t.heap = H → s.vm.Alike t.vm → XC E s t) (hf : ∀ z ∈ locs, free z.base) (hc : cells ≤ mc) (hs : slots ≤ ms) :
    vx_W p l e R s m args below meth c H locs cells slots (vx_MQ below Qc XC args s mc ms free) (F0 m pc ls rest) q := by
  intro T hT X
  obtain ⟨st1, hrun, hend, hW, hsm⟩ := X.leaveThrown q (g := F0 m pc ls rest) rfl rfl rfl hout hlocks
  have hcell9 : (T.setFrames (.throwing q :: below)).heap[q]? = some ce := by
    show T.heap[q]? = some ce
    rw [hT]; exact hcell
  exact ⟨_, st1, .threw q, hrun, hend, Or.inr ⟨q, rfl, E, ce, locs, hx _ hT hW.alike, hcell9, hv, hcl, hW, hsm.mono hc hs, hf⟩⟩
theorem vx_frame {U : State} {k n : Nat} (h : s.sameButNew ({ U with vm := s.vm } : State) locs k n) : s.heap.size ≤ U.heap.size ∧ ∀ q : Nat, q < s.heap.size → (∀ z ∈ locs, z.base ≠ q) → U.heap[q]? = s.heap[q]? := by
  obtain ⟨-, h2, -, -, -, h6⟩ := h
  refine ⟨h2, fun q hq hz => ?_⟩
  obtain ⟨c9, e1, e2, e3, e4⟩ := h6 q _ (Array.getElem?_eq_getElem hq)
  have hs : c9.slots = (s.heap[q]).slots := Array.ext_getElem? fun i => e4 i fun hm => hz _ hm rfl
  have h9 : c9 = s.heap[q] := by
    rw [hs] at e2
    exact e2
  have e5 : U.heap[q]? = some c9 := e1
  rw [e5, h9, Array.getElem?_eq_getElem hq]
/-- the words of a throw but the four that speak of the heap -/
def vx_no (w : Cond) : Bool := decide (w ≠ .isRef (.static Bundle.tN "UNASSIGNED_STACK" Bundle.steD)) && decide (w ≠ .isRef (.static Bundle.tN "SUPPRESSED_SENTINEL" Bundle.listD)) && decide (w ≠ .laysStatic Bundle.tN "UNASSIGNED_STACK" Bundle.steD) && decide (w ≠ .laysStatic Bundle.tN "SUPPRESSED_SENTINEL" Bundle.listD)
def vx_at0 (own : String) (ic : Nat) (X : String) (names : List String) : List Cond := (Bundle.ownAtoms0 own ic X names).filter vx_no
def vx_atS (own : String) (ic : Nat) (X : String) (names : List String) : List Cond := (Bundle.ownAtoms own ic X names).filter vx_no
/-- a word that the tables alone decide, or a good one -/
def vx_ot (w : Cond) : Bool := w.onTables || goodWord w
theorem vx_ot_at {args a' : Array Value} {s U : State} {w : Cond} (hW : s.WarmedH U.vm) (hvm : s.vm = U.vm) (hg : vx_ot w = true) (h : w.before args s = true) : w.before a' U = true := by
  simp only [vx_ot, Bool.or_eq_true] at hg
  rcases hg with hg | hg
  · exact va_tabs hg hvm h
  · exact word_at hW (good_of_word hg) h
/-- a list's words: the good ones out of the method's own list, the others by premises of their own -/
theorem vx_hat {args : Array Value} {s : State} {L B : List Cond} (h1 : ∀ w ∈ L.filter goodWord, w.before args s = true) (h2 : ∀ w ∈ L.filter (fun w => !goodWord w), w ∈ B) (h3 : ∀ w ∈ B, w.before args s = true) : ∀ w ∈ L, w.before args s = true := by
  intro w hw
  by_cases g : goodWord w = true
  · exact h1 w (List.mem_filter.mpr ⟨hw, g⟩)
  · refine h3 w (h2 w (List.mem_filter.mpr ⟨hw, ?_⟩))
    show (!goodWord w) = true
    cases hgw : goodWord w
    · rfl
    · exact absurd hgw g
theorem vx_c {args : Array Value} {s : State} {w : Cond} {B : List Cond} (h : w.before args s = true) (t : ∀ w ∈ B, w.before args s = true) : ∀ w' ∈ w :: B, w'.before args s = true := fun w' h' => (List.mem_cons.mp h').elim (fun e => by rw [e]; exact h) (t w')
theorem vx_n {args : Array Value} {s : State} : ∀ w ∈ ([] : List Cond), w.before args s = true := fun _ h => nomatch h
theorem vx_own {args : Array Value} {s : State} {L : List Cond} (h1 : ∀ w ∈ L.filter vx_no, w.before args s = true)
    (hU : (Cond.isRef (.static Bundle.tN "UNASSIGNED_STACK" Bundle.steD)).before args s = true) (hN : (Cond.isRef (.static Bundle.tN "SUPPRESSED_SENTINEL" Bundle.listD)).before args s = true)
    (lU : (Cond.laysStatic Bundle.tN "UNASSIGNED_STACK" Bundle.steD).before args s = true) (lN : (Cond.laysStatic Bundle.tN "SUPPRESSED_SENTINEL" Bundle.listD).before args s = true) : ∀ w ∈ L, w.before args s = true := by
  intro w hw
  by_cases e1 : w = .isRef (.static Bundle.tN "UNASSIGNED_STACK" Bundle.steD)
  · rw [e1]; exact hU
  · by_cases e2 : w = .isRef (.static Bundle.tN "SUPPRESSED_SENTINEL" Bundle.listD)
    · rw [e2]; exact hN
    · by_cases e3 : w = .laysStatic Bundle.tN "UNASSIGNED_STACK" Bundle.steD
      · rw [e3]; exact lU
      · by_cases e4 : w = .laysStatic Bundle.tN "SUPPRESSED_SENTINEL" Bundle.listD
        · rw [e4]; exact lN
        · exact h1 w (List.mem_filter.mpr ⟨hw, by unfold vx_no; rw [decide_eq_true e1, decide_eq_true e2, decide_eq_true e3, decide_eq_true e4]; rfl⟩)
/-- where a static field lies, its class's statics cell in H -/
def vx_L (C n d : String) (A : Nat → Prop) (U : State) (H : Heap) : Prop := ∃ (c : ClassId) (k : Class) (i : Nat) (f : Field) (a : Nat) (cell : Cell), U.vm.findClass C = some c ∧ U.fieldFound? C n d = some (c, k, i, f) ∧ f.isStatic = true ∧ k.statics = some a ∧ H[a]? = some cell ∧ cell.vm.isStatics = true ∧ cell.cls = c ∧ f.slot < cell.slots.size ∧ k.staticTypes[f.slot]? = some f.type ∧ ¬ A a
theorem vx_L.moved {C n d : String} {A : Nat → Prop} {u U : State} {H : Heap} (hvm : u.vm.Alike U.vm) (h : vx_L C n d A u H) : vx_L C n d A U H := by
  obtain ⟨c, k, i, f, a, cell, h1, h2, h3, h4, h5, h6, h7, h8, h9, h10⟩ := h
  obtain ⟨k', hi', he⟩ := State.fieldFound?_setVm hvm h2
  exact ⟨c, k', i, f, a, cell, by rw [hvm.findClass]; exact h1, hi', h3, by rw [he]; exact h4, h5, h6, h7, h8, by rw [he]; exact h9, h10⟩
theorem vx_L.kept {C n d : String} {A : Nat → Prop} {U : State} {H H1 : Heap} (h : vx_L C n d A U H) (hq : ∀ a : Nat, a < H.size → ¬ A a → H1[a]? = H[a]?) : vx_L C n d A U H1 := by
  obtain ⟨c, k, i, f, a, cell, h1, h2, h3, h4, h5, h6, h7, h8, h9, h10⟩ := h
  exact ⟨c, k, i, f, a, cell, h1, h2, h3, h4, by rw [hq a (Array.getElem?_eq_some_iff.mp h5).1 h10]; exact h5, h6, h7, h8, h9, h10⟩
theorem vx_L.narrow {C n d : String} {A B : Nat → Prop} {U : State} {H : Heap} (h : vx_L C n d A U H) (hAB : ∀ q, B q → A q) : vx_L C n d B U H := by
  obtain ⟨c, k, i, f, a, cell, h1, h2, h3, h4, h5, h6, h7, h8, h9, h10⟩ := h
  exact ⟨c, k, i, f, a, cell, h1, h2, h3, h4, h5, h6, h7, h8, h9, fun z => h10 (hAB _ z)⟩
theorem vx_L.word {C n d : String} {A : Nat → Prop} {s : State} {args : Array Value} (h : vx_L C n d A s s.heap) : (Cond.laysStatic C n d).before args s = true := by
  obtain ⟨c, k, i, f, a, cell, h1, h2, h3, h4, h5, h6, h7, h8, h9, -⟩ := h
  show (Cond.laysStatic C n d).holds args s none s [] = true
  exact Cond.laysStatic_of h1 h2 h3 h4 h5 h6 h7 h8 h9
/-- .. and what it holds: null or some reference -/
def vx_Zq (C n d : String) (A : Nat → Prop) (U : State) (H : Heap) : Prop := va_Zq C n d A U H ∧ vx_L C n d A U H
theorem vx_Zq.moved {C n d : String} {A : Nat → Prop} {u U : State} {H : Heap} (hvm : u.vm.Alike U.vm) (h : vx_Zq C n d A u H) : vx_Zq C n d A U H := ⟨va_Zq.moved hvm h.1, vx_L.moved hvm h.2⟩
theorem vx_Zq.kept {C n d : String} {A : Nat → Prop} {U : State} {H H1 : Heap} (h : vx_Zq C n d A U H) (hq : ∀ a : Nat, a < H.size → ¬ A a → H1[a]? = H[a]?) : vx_Zq C n d A U H1 := ⟨va_Zq.kept h.1 hq, vx_L.kept h.2 hq⟩
theorem vx_Zq.narrow {C n d : String} {A B : Nat → Prop} {U : State} {H : Heap} (h : vx_Zq C n d A U H) (hAB : ∀ q, B q → A q) : vx_Zq C n d B U H := ⟨va_Zq.narrow h.1 hAB, vx_L.narrow h.2 hAB⟩
theorem vx_Zqof {args : Array Value} {s : State} {C n d : String} {A : Nat → Prop} (hl : (Cond.laysStatic C n d).before args s = true) (hini : (Cond.initialized C).before args s = true) (h : (Cond.isRef (.static C n d)).before args s = true) (hA : ∀ a : Nat, a < s.heap.size → ¬ A a) : vx_Zq C n d A s s.heap := by
  refine ⟨va_Zqof hl hini h hA, ?_⟩
  obtain ⟨c, k, i, f, a, cell, h1, h2, h3, h4, h5, h6, h7, h8, h9⟩ := Cond.laysStatic_spec hl
  exact ⟨c, k, i, f, a, cell, h1, h2, h3, h4, h5, h6, h7, h8, h9, hA a (Array.getElem?_eq_some_iff.mp h5).1⟩
theorem vx_isRef {C n d : String} {v : Value} {A : Nat → Prop} {s : State} {args : Array Value} (h : va_Z C n d v A s s.heap) (hv : v.isRef = true) : (Cond.isRef (.static C n d)).before args s = true := by
  obtain ⟨cf, kf, fi, f, a, cell, h1, h2, h3, h4, h5, h6, h7, -⟩ := h
  have he : (Term.static C n d).eval args s none [] s = some v := by
    simp [Term.eval, State.fieldNamed?, h1, h2, h4, h5, h6, h7]
  simp only [Cond.before, Cond.holds, Cond.value, he]
  cases v <;> simp_all [Value.isRef]
theorem vx_isRefq {C n d : String} {A : Nat → Prop} {s : State} {args : Array Value} (h : va_Zq C n d A s s.heap) : (Cond.isRef (.static C n d)).before args s = true := by
  rcases h with h | ⟨t, h⟩
  · exact vx_isRef h rfl
  · exact vx_isRef h rfl
/-- the same frame, seen from here: as if the method were called anew in this heap -/
theorem vx_rebase {T : State} (X : Stand p l e R s m args below meth c T locs cells slots) {R' : Room} (hf : R'.frames ≤ R.frames) (hl : R'.locals ≤ R.locals) (hc : cells + R'.cells ≤ R.cells) (hs : slots + R'.slots ≤ R.slots) :
    Stand p l e R' ((T.setVm s.vm).setFrames (.invoking m args :: below)) m args below meth c T [] 0 0 := by
  have htop : (T.setVm s.vm).topJava?.isSome := X.here.top
  have hF : ((T.setVm s.vm).setFrames (.invoking m args :: below)).frames = .invoking m args :: below := State.frames_setFrames _ (State.cur_lt_of_top htop)
  obtain ⟨g₀, hg0⟩ := Option.isSome_iff_exists.mp htop
  obtain ⟨r, hr⟩ := State.topJava?_eq_some.mp hg0
  have hl9 : e.platform.stackLimits (T.setVm s.vm).me = e.platform.stackLimits s.me := X.limits
  have hb9 : (T.setVm s.vm).me.stackBytes = s.me.stackBytes := X.bytes
  refine ⟨X.admits, X.cas, X.clock, hF, ?_, X.hears, X.method, X.code, X.here, X.tail, X.warmed, ?_, ?_, ?_⟩
  · have h := X.room
    have hU : ((T.setVm s.vm).setFrames (.invoking m args :: below)).localsInUse = s.localsInUse := by
      rw [State.localsInUse_invoking hF (meth := meth) (c := c) X.method X.code, State.localsInUse_invoking X.frames X.method X.code]
    simp only [State.hasRoom, Bool.and_eq_true, decide_eq_true_eq] at h ⊢
    obtain ⟨⟨⟨⟨h1, h2, h3, h4, h5, h6⟩, h7⟩, h8⟩, h9⟩ := h
    rw [X.frames, List.length_cons] at h2 h3
    have q1 := X.heapSize
    have q2 := X.used
    simp only [hF, hU, List.length_cons, State.stackLimits_setFrames, State.stackBytes_setFrames, hl9, hb9]
    refine ⟨⟨⟨⟨by omega, by omega, by omega, by omega, by omega, h6⟩, ?_⟩, ?_⟩, X.book⟩
    · show T.heap.size + R'.cells ≤ e.platform.maxCells
      omega
    · show T.slotsUsed + R'.slots ≤ e.platform.maxSlots
      omega
  · rw [State.stackLimits_setFrames]; rfl
  · rw [State.stackBytes_setFrames]; rfl
  · refine ⟨?_, Nat.le_refl _, Nat.le_refl _, ?_, ?_, fun a c9 h9 => ⟨c9, h9, rfl, rfl, fun _ _ => rfl⟩⟩
    · obtain ⟨t, ht, -⟩ := State.frames_cons hr
      show T.setVm s.vm = { ((T.setVm s.vm).setFrames (.invoking m args :: below)).setFrames (T.setVm s.vm).frames with heap := T.heap, slotsUsed := T.slotsUsed }
      rw [State.setFrames_setFrames, State.setFrames_self ht]
      rfl
    · show T.slotsUsed = T.slotsUsed + ((T.heap.toList.drop T.heap.size).map (·.slots.size)).sum
      rw [List.drop_eq_nil_of_le (Nat.le_of_eq Array.length_toList)]
      rfl
    · show ((T.heap.toList.drop T.heap.size).map (·.slots.size)).sum ≤ 0
      rw [List.drop_eq_nil_of_le (Nat.le_of_eq Array.length_toList)]
      exact Nat.le_refl _
/-- 'throw new E()': new; dup; invokespecial; athrow -/
theorem vx_throw0 {cc : ByteArray} {pc : Nat} (hexec : p.tables.exec = Jvm.exec) (hb : c.code = cc) (hl : l.stackTraces = false) {own cls : String} {names : List String} {ik ic mc ms : Nat} {A : Nat → Prop}
    (hown : s.vm.findClass own = some m.cls) (hcls : Bundle.fit cls = true) (hnames : ∀ n ∈ names, Bundle.fit n = true)
    (hk : (Cond.classLink own ik cls).before args s = true) (hini : (Cond.initialized cls).before args s = true) (hat : ∀ w ∈ vx_at0 own ic cls names, w.before args s = true)
    (hgood : ∀ w ∈ Cond.classLink own ik cls :: Cond.initialized cls :: vx_at0 own ic cls names, vx_ot w = true)
    (hU : vx_Zq Bundle.tN "UNASSIGNED_STACK" Bundle.steD A s s.heap) (hN : vx_Zq Bundle.tN "SUPPRESSED_SENTINEL" Bundle.listD A s s.heap) (hS : va_S A s.heap H locs) (hsize : ls.size = c.maxLocals)
    (d0 : decode cc pc = .ok (.new ik, 3)) (d3 : decode cc (pc + 3) = .ok (.dup, 1)) (d4 : decode cc (pc + 4) = .ok (.invokespecial ic, 3)) (d7 : decode cc (pc + 7) = .ok (.athrow, 1))
    (hout : ∀ x ∈ c.exceptionTable.toList, covers x (pc + 7) = false)
    (hRframes : names.length + 3 < R.frames) (hRlocals : (rest.map fun v => v.category).sum + (13 * (names.length + 1) + 42) ≤ R.locals) (hRcells : cells + 1 ≤ R.cells) (hRslots : slots + 6 ≤ R.slots) (hlocks : meth.locks = false)
    (hx : ∀ t : State, s.vm.Alike t.vm → H.size ≤ t.heap.size → (∀ q : Nat, q < H.size → t.heap[q]? = H[q]?) → XC cls s t)
    (hf : ∀ z ∈ locs, free z.base) (hc : cells + 1 ≤ mc) (hs : slots + 6 ≤ ms) :
    W p l e R s m args below meth c H locs cells slots (vx_MQ below Qc XC args s mc ms free) (F0 m pc ls rest) := by
  intro T hT X
  have htr : e.platform.stackTraces = false := (show e.platform.stackTraces = l.stackTraces by rw [X.admits.platform]).trans hl
  have Y := vx_rebase X (R' := { frames := R.frames, locals := R.locals, cells := 1, slots := 6 }) (Nat.le_refl _) (Nat.le_refl _) hRcells hRslots
  obtain ⟨s', hA⟩ : ∃ z, z = (T.setVm s.vm).setFrames (.invoking m args :: below) := ⟨_, rfl⟩
  rw [← hA] at Y
  have hvm : s'.vm = s.vm := by rw [hA]; rfl
  have hhp : s'.heap = H := by rw [hA]; exact hT
  have hW0 : s.WarmedH s'.vm := by rw [hvm]; exact State.WarmedH.refl s
  have hat' : ∀ w ∈ vx_at0 own ic cls names, w.before args s' = true := fun w hw => vx_ot_at hW0 hvm.symm (hgood w (List.mem_cons_of_mem _ (List.mem_cons_of_mem _ hw))) (hat w hw)
  have hk' : (Cond.classLink own ik cls).before args s' = true := vx_ot_at hW0 hvm.symm (hgood _ List.mem_cons_self) hk
  have hini' : (Cond.initialized cls).before args s' = true := vx_ot_at hW0 hvm.symm (hgood _ (List.mem_cons_of_mem _ List.mem_cons_self)) hini
  have hU' : vx_Zq Bundle.tN "UNASSIGNED_STACK" Bundle.steD A s' s'.heap := by rw [hhp]; exact vx_Zq.moved hW0.alike (hU.kept hS.2.1)
  have hN' : vx_Zq Bundle.tN "SUPPRESSED_SENTINEL" Bundle.listD A s' s'.heap := by rw [hhp]; exact vx_Zq.moved hW0.alike (hN.kept hS.2.1)
  have h : ∀ w ∈ Bundle.ownAtoms0 own ic cls names, w.before args s' = true := vx_own hat' (vx_isRefq hU'.1) (vx_isRefq hN'.1) hU'.2.word hN'.2.word
  have hown' : s'.vm.findClass own = some m.cls := by rw [hvm]; exact hown
  have hins : (Cond.instantiable cls 6).before args s' = true := h _ (by simp [Bundle.ownAtoms0])
  obtain ⟨vm₁, cX, kX, hfX, hkX, -, -, X₁, st1⟩ := Y.newCold hexec (own := own) (C := cls) (index := ik) (n := 6) hown' hk' hins hini'
    (g := F0 m pc ls rest) rfl (by rw [hb]; exact d0) (Nat.le_refl _) (Nat.le_refl _)
  generalize hT1 : (T.setVm vm₁).pushCell { cls := cX, slots := kX.instanceTypes.map defaultValue, vm := .none } = T1 at X₁ st1
  have hcat : (Value.ref T.heap.size).category = 1 := rfl
  have hcellA : T1.heap[T.heap.size]? = some (freshCell cX kX) := by rw [← hT1]; exact State.heap_pushCell_size _ _
  have d3' : decode c.code (pc + 3) = .ok (.dup, 1) := by rw [hb]; exact d3
  obtain ⟨U, hsteps, hrun, hend, hW, hsame, ce, hce, hO⟩ := X₁.ctorThrow0 hexec htr (own := own) (cls := cls) (names := names) (ic := ic) hown' hcls hnames h (fun x hx => nomatch hx) hfX hkX hcellA (by rw [hhp, hT]; exact Nat.le_refl _)
    (g := { method := m, pc := pc + 4, locals := ls, stack := .ref T.heap.size :: .ref T.heap.size :: rest, locked := none }) rfl hsize rfl rfl (rest := rest) rfl
    (by rw [hb]; exact d4) (by rw [hb]; exact d7) hout hRframes (by simp only [List.map_cons, List.sum_cons, hcat]; omega) hlocks
  obtain ⟨f1, f2⟩ := vx_frame hsame
  rw [hhp] at f1 f2
  have hWs : s.WarmedH U.vm := State.WarmedH.trans hW0 hW
  have hcl : s.vm.findClass cls = some ce.cls := by
    have h9 := hO.cls
    rw [hvm] at h9
    exact h9
  have hall : s.sameButNew ({ U with vm := s.vm } : State) locs mc ms := by
    subst hA
    obtain ⟨e1, e2⟩ := hsame
    rw [State.setFrames_setFrames] at e1
    have h2 : (T.setVm s.vm).sameButNew ({ U with vm := s.vm } : State) [] (0 + 1) (0 + 6) := ⟨e1, e2⟩
    have h3 := X.same.trans h2
    rw [List.append_nil] at h3
    exact h3.mono hc hs
  refine ⟨U, ?_, .threw T.heap.size, hrun, hend, Or.inr ⟨T.heap.size, rfl, cls, ce, locs, hx U hWs.alike f1 (fun q hq => f2 q hq (fun z hz => nomatch hz)), hce, hO.vm, hcl, hWs, hall, hf⟩⟩
  refine st1 _ ?_
  show Steps p.tables e below (T1.setTop { method := m, pc := pc + 3, locals := ls, stack := .ref T.heap.size :: rest, locked := none }) _
  jvm_step X₁.here [X₁.here.top, hexec, d3', Value.category]
  exact hsteps
/-- 'throw new E("text")': new; dup; ldc; invokespecial; athrow -/
theorem vx_throwS {cc : ByteArray} {pc : Nat} (hexec : p.tables.exec = Jvm.exec) (hb : c.code = cc) (hl : l.stackTraces = false) {own cls text : String} {names : List String} {ik is ic mc ms sa : Nat} {A : Nat → Prop}
    (hown : s.vm.findClass own = some m.cls) (hcls : Bundle.fit cls = true) (hnames : ∀ n ∈ names, Bundle.fit n = true)
    (hk : (Cond.classLink own ik cls).before args s = true) (hini : (Cond.initialized cls).before args s = true) (hstr : vk_R own is text sa s) (hat : ∀ w ∈ vx_atS own ic cls names, w.before args s = true)
    (hgood : ∀ w ∈ Cond.classLink own ik cls :: Cond.initialized cls :: vx_atS own ic cls names, vx_ot w = true)
    (hU : vx_Zq Bundle.tN "UNASSIGNED_STACK" Bundle.steD A s s.heap) (hN : vx_Zq Bundle.tN "SUPPRESSED_SENTINEL" Bundle.listD A s s.heap) (hS : va_S A s.heap H locs) (hsize : ls.size = c.maxLocals)
    (d0 : decode cc pc = .ok (.new ik, 3)) (d3 : decode cc (pc + 3) = .ok (.dup, 1)) (d4 : decode cc (pc + 4) = .ok (.ldc is, 2)) (d6 : decode cc (pc + 6) = .ok (.invokespecial ic, 3)) (d9 : decode cc (pc + 9) = .ok (.athrow, 1))
    (hout : ∀ x ∈ c.exceptionTable.toList, covers x (pc + 9) = false)
    (hRframes : names.length + 3 < R.frames) (hRlocals : (rest.map fun v => v.category).sum + (13 * (names.length + 1) + 43) ≤ R.locals) (hRcells : cells + 1 ≤ R.cells) (hRslots : slots + 6 ≤ R.slots) (hlocks : meth.locks = false)
    (hx : ∀ t : State, s.vm.Alike t.vm → H.size ≤ t.heap.size → (∀ q : Nat, q < H.size → t.heap[q]? = H[q]?) → XC cls s t)
    (hf : ∀ z ∈ locs, free z.base) (hc : cells + 1 ≤ mc) (hs : slots + 6 ≤ ms) :
    W p l e R s m args below meth c H locs cells slots (vx_MQ below Qc XC args s mc ms free) (F0 m pc ls rest) := by
  intro T hT X
  have htr : e.platform.stackTraces = false := (show e.platform.stackTraces = l.stackTraces by rw [X.admits.platform]).trans hl
  have Y := vx_rebase X (R' := { frames := R.frames, locals := R.locals, cells := 1, slots := 6 }) (Nat.le_refl _) (Nat.le_refl _) hRcells hRslots
  obtain ⟨s', hA⟩ : ∃ z, z = (T.setVm s.vm).setFrames (.invoking m args :: below) := ⟨_, rfl⟩
  rw [← hA] at Y
  have hvm : s'.vm = s.vm := by rw [hA]; rfl
  have hhp : s'.heap = H := by rw [hA]; exact hT
  have hW0 : s.WarmedH s'.vm := by rw [hvm]; exact State.WarmedH.refl s
  have hat' : ∀ w ∈ vx_atS own ic cls names, w.before args s' = true := fun w hw => vx_ot_at hW0 hvm.symm (hgood w (List.mem_cons_of_mem _ (List.mem_cons_of_mem _ hw))) (hat w hw)
  have hk' : (Cond.classLink own ik cls).before args s' = true := vx_ot_at hW0 hvm.symm (hgood _ List.mem_cons_self) hk
  have hini' : (Cond.initialized cls).before args s' = true := vx_ot_at hW0 hvm.symm (hgood _ (List.mem_cons_of_mem _ List.mem_cons_self)) hini
  have hU' : vx_Zq Bundle.tN "UNASSIGNED_STACK" Bundle.steD A s' s'.heap := by rw [hhp]; exact vx_Zq.moved hW0.alike (hU.kept hS.2.1)
  have hN' : vx_Zq Bundle.tN "SUPPRESSED_SENTINEL" Bundle.listD A s' s'.heap := by rw [hhp]; exact vx_Zq.moved hW0.alike (hN.kept hS.2.1)
  have h : ∀ w ∈ Bundle.ownAtoms own ic cls names, w.before args s' = true := vx_own hat' (vx_isRefq hU'.1) (vx_isRefq hN'.1) hU'.2.word hN'.2.word
  have hown' : s'.vm.findClass own = some m.cls := by rw [hvm]; exact hown
  have hins : (Cond.instantiable cls 6).before args s' = true := h _ (by simp [Bundle.ownAtoms])
  obtain ⟨vm₁, cX, kX, hfX, hkX, -, -, X₁, st1⟩ := Y.newCold hexec (own := own) (C := cls) (index := ik) (n := 6) hown' hk' hins hini'
    (g := F0 m pc ls rest) rfl (by rw [hb]; exact d0) (Nat.le_refl _) (Nat.le_refl _)
  generalize hT1 : (T.setVm vm₁).pushCell { cls := cX, slots := kX.instanceTypes.map defaultValue, vm := .none } = T1 at X₁ st1
  have hcat : (Value.ref T.heap.size).category = 1 := rfl
  have hcellA : T1.heap[T.heap.size]? = some (freshCell cX kX) := by rw [← hT1]; exact State.heap_pushCell_size _ _
  have d3' : decode c.code (pc + 3) = .ok (.dup, 1) := by rw [hb]; exact d3
  have d4' : decode c.code (pc + 4) = .ok (.ldc is, 2) := by rw [hb]; exact d4
  have hstr' : vk_R own is text sa s' := vk_R.warm hW0 hstr
  obtain ⟨U, hsteps, hrun, hend, hW, hsame, ce, hce, hO⟩ := X₁.ctorThrowS hexec htr (own := own) (cls := cls) (names := names) (ic := ic) hown' hcls hnames h (fun x hx => nomatch hx) hfX hkX hcellA (by rw [hhp, hT]; exact Nat.le_refl _) (msg := .ref sa) rfl
    (g := { method := m, pc := pc + 6, locals := ls, stack := .ref sa :: .ref T.heap.size :: .ref T.heap.size :: rest, locked := none }) rfl hsize rfl rfl (rest := rest) rfl
    (by rw [hb]; exact d6) (by rw [hb]; exact d9) hout hRframes (by simp only [List.map_cons, List.sum_cons, hcat]; omega) hlocks
  obtain ⟨f1, f2⟩ := vx_frame hsame
  rw [hhp] at f1 f2
  have hWs : s.WarmedH U.vm := State.WarmedH.trans hW0 hW
  have hcl : s.vm.findClass cls = some ce.cls := by
    have h9 := hO.cls
    rw [hvm] at h9
    exact h9
  have hall : s.sameButNew ({ U with vm := s.vm } : State) locs mc ms := by
    subst hA
    obtain ⟨e1, e2⟩ := hsame
    rw [State.setFrames_setFrames] at e1
    have h2 : (T.setVm s.vm).sameButNew ({ U with vm := s.vm } : State) [] (0 + 1) (0 + 6) := ⟨e1, e2⟩
    have h3 := X.same.trans h2
    rw [List.append_nil] at h3
    exact h3.mono hc hs
  refine ⟨U, ?_, .threw T.heap.size, hrun, hend, Or.inr ⟨T.heap.size, rfl, cls, ce, locs, hx U hWs.alike f1 (fun q hq => f2 q hq (fun z hz => nomatch hz)), hce, hO.vm, hcl, hWs, hall, hf⟩⟩
  refine st1 _ ?_
  show Steps p.tables e below (T1.setTop { method := m, pc := pc + 3, locals := ls, stack := .ref T.heap.size :: rest, locked := none }) _
  jvm_step X₁.here [X₁.here.top, hexec, d3', Value.category]
  exact X₁.ldcString hexec (own := own) (text := text) (index := is) (a := sa) hown' hstr'.1 hstr'.2
    (g := { method := m, pc := pc + 4, locals := ls, stack := .ref T.heap.size :: .ref T.heap.size :: rest, locked := none }) rfl d4' _ hsteps
/-- 'throw new E("text")', the text by a wide index -/
theorem vx_throwSW {cc : ByteArray} {pc : Nat} (hexec : p.tables.exec = Jvm.exec) (hb : c.code = cc) (hl : l.stackTraces = false) {own cls text : String} {names : List String} {ik is ic mc ms sa : Nat} {A : Nat → Prop}
    (hown : s.vm.findClass own = some m.cls) (hcls : Bundle.fit cls = true) (hnames : ∀ n ∈ names, Bundle.fit n = true)
    (hk : (Cond.classLink own ik cls).before args s = true) (hini : (Cond.initialized cls).before args s = true) (hstr : vk_R own is text sa s) (hat : ∀ w ∈ vx_atS own ic cls names, w.before args s = true)
    (hgood : ∀ w ∈ Cond.classLink own ik cls :: Cond.initialized cls :: vx_atS own ic cls names, vx_ot w = true)
    (hU : vx_Zq Bundle.tN "UNASSIGNED_STACK" Bundle.steD A s s.heap) (hN : vx_Zq Bundle.tN "SUPPRESSED_SENTINEL" Bundle.listD A s s.heap) (hS : va_S A s.heap H locs) (hsize : ls.size = c.maxLocals)
    (d0 : decode cc pc = .ok (.new ik, 3)) (d3 : decode cc (pc + 3) = .ok (.dup, 1)) (d4 : decode cc (pc + 4) = .ok (.ldc_w is, 3)) (d7 : decode cc (pc + 7) = .ok (.invokespecial ic, 3)) (d10 : decode cc (pc + 10) = .ok (.athrow, 1))
    (hout : ∀ x ∈ c.exceptionTable.toList, covers x (pc + 10) = false)
    (hRframes : names.length + 3 < R.frames) (hRlocals : (rest.map fun v => v.category).sum + (13 * (names.length + 1) + 43) ≤ R.locals) (hRcells : cells + 1 ≤ R.cells) (hRslots : slots + 6 ≤ R.slots) (hlocks : meth.locks = false)
    (hx : ∀ t : State, s.vm.Alike t.vm → H.size ≤ t.heap.size → (∀ q : Nat, q < H.size → t.heap[q]? = H[q]?) → XC cls s t)
    (hf : ∀ z ∈ locs, free z.base) (hc : cells + 1 ≤ mc) (hs : slots + 6 ≤ ms) :
    W p l e R s m args below meth c H locs cells slots (vx_MQ below Qc XC args s mc ms free) (F0 m pc ls rest) := by
  intro T hT X
  have htr : e.platform.stackTraces = false := (show e.platform.stackTraces = l.stackTraces by rw [X.admits.platform]).trans hl
  have Y := vx_rebase X (R' := { frames := R.frames, locals := R.locals, cells := 1, slots := 6 }) (Nat.le_refl _) (Nat.le_refl _) hRcells hRslots
  obtain ⟨s', hA⟩ : ∃ z, z = (T.setVm s.vm).setFrames (.invoking m args :: below) := ⟨_, rfl⟩
  rw [← hA] at Y
  have hvm : s'.vm = s.vm := by rw [hA]; rfl
  have hhp : s'.heap = H := by rw [hA]; exact hT
  have hW0 : s.WarmedH s'.vm := by rw [hvm]; exact State.WarmedH.refl s
  have hat' : ∀ w ∈ vx_atS own ic cls names, w.before args s' = true := fun w hw => vx_ot_at hW0 hvm.symm (hgood w (List.mem_cons_of_mem _ (List.mem_cons_of_mem _ hw))) (hat w hw)
  have hk' : (Cond.classLink own ik cls).before args s' = true := vx_ot_at hW0 hvm.symm (hgood _ List.mem_cons_self) hk
  have hini' : (Cond.initialized cls).before args s' = true := vx_ot_at hW0 hvm.symm (hgood _ (List.mem_cons_of_mem _ List.mem_cons_self)) hini
  have hU' : vx_Zq Bundle.tN "UNASSIGNED_STACK" Bundle.steD A s' s'.heap := by rw [hhp]; exact vx_Zq.moved hW0.alike (hU.kept hS.2.1)
  have hN' : vx_Zq Bundle.tN "SUPPRESSED_SENTINEL" Bundle.listD A s' s'.heap := by rw [hhp]; exact vx_Zq.moved hW0.alike (hN.kept hS.2.1)
  have h : ∀ w ∈ Bundle.ownAtoms own ic cls names, w.before args s' = true := vx_own hat' (vx_isRefq hU'.1) (vx_isRefq hN'.1) hU'.2.word hN'.2.word
  have hown' : s'.vm.findClass own = some m.cls := by rw [hvm]; exact hown
  have hins : (Cond.instantiable cls 6).before args s' = true := h _ (by simp [Bundle.ownAtoms])
  obtain ⟨vm₁, cX, kX, hfX, hkX, -, -, X₁, st1⟩ := Y.newCold hexec (own := own) (C := cls) (index := ik) (n := 6) hown' hk' hins hini'
    (g := F0 m pc ls rest) rfl (by rw [hb]; exact d0) (Nat.le_refl _) (Nat.le_refl _)
  generalize hT1 : (T.setVm vm₁).pushCell { cls := cX, slots := kX.instanceTypes.map defaultValue, vm := .none } = T1 at X₁ st1
  have hcat : (Value.ref T.heap.size).category = 1 := rfl
  have hcellA : T1.heap[T.heap.size]? = some (freshCell cX kX) := by rw [← hT1]; exact State.heap_pushCell_size _ _
  have d3' : decode c.code (pc + 3) = .ok (.dup, 1) := by rw [hb]; exact d3
  have d4' : decode c.code (pc + 4) = .ok (.ldc_w is, 3) := by rw [hb]; exact d4
  have hstr' : vk_R own is text sa s' := vk_R.warm hW0 hstr
  obtain ⟨U, hsteps, hrun, hend, hW, hsame, ce, hce, hO⟩ := X₁.ctorThrowS hexec htr (own := own) (cls := cls) (names := names) (ic := ic) hown' hcls hnames h (fun x hx => nomatch hx) hfX hkX hcellA (by rw [hhp, hT]; exact Nat.le_refl _) (msg := .ref sa) rfl
    (g := { method := m, pc := pc + 7, locals := ls, stack := .ref sa :: .ref T.heap.size :: .ref T.heap.size :: rest, locked := none }) rfl hsize rfl rfl (rest := rest) rfl
    (by rw [hb]; exact d7) (by rw [hb]; exact d10) hout hRframes (by simp only [List.map_cons, List.sum_cons, hcat]; omega) hlocks
  obtain ⟨f1, f2⟩ := vx_frame hsame
  rw [hhp] at f1 f2
  have hWs : s.WarmedH U.vm := State.WarmedH.trans hW0 hW
  have hcl : s.vm.findClass cls = some ce.cls := by
    have h9 := hO.cls
    rw [hvm] at h9
    exact h9
  have hall : s.sameButNew ({ U with vm := s.vm } : State) locs mc ms := by
    subst hA
    obtain ⟨e1, e2⟩ := hsame
    rw [State.setFrames_setFrames] at e1
    have h2 : (T.setVm s.vm).sameButNew ({ U with vm := s.vm } : State) [] (0 + 1) (0 + 6) := ⟨e1, e2⟩
    have h3 := X.same.trans h2
    rw [List.append_nil] at h3
    exact h3.mono hc hs
  refine ⟨U, ?_, .threw T.heap.size, hrun, hend, Or.inr ⟨T.heap.size, rfl, cls, ce, locs, hx U hWs.alike f1 (fun q hq => f2 q hq (fun z hz => nomatch hz)), hce, hO.vm, hcl, hWs, hall, hf⟩⟩
  refine st1 _ ?_
  show Steps p.tables e below (T1.setTop { method := m, pc := pc + 3, locals := ls, stack := .ref T.heap.size :: rest, locked := none }) _
  jvm_step X₁.here [X₁.here.top, hexec, d3', Value.category]
  exact X₁.ldcStringW hexec (own := own) (text := text) (index := is) (a := sa) hown' hstr'.1 hstr'.2
    (g := { method := m, pc := pc + 4, locals := ls, stack := .ref T.heap.size :: .ref T.heap.size :: rest, locked := none }) rfl d4' _ hsteps
end Ends
section Bodies
variable {l : Launch}
theorem vx_ofW {y : MethodName} {ws ws' : List Cond} {rm : Room} {Pc : Array Value → State → Prop} {Qc : Array Value → State → Outcome → State → Prop} {XC : String → State → State → Prop} {mc ms : Nat} {free : Addr → Prop} {cc : ByteArray} {maxL : Nat} {ret : Option FieldType}
    (hy : plainName y.cls = true) (hw : ws = Cond.code y cc maxL ret :: ws')
    (body : ∀ p e s m args below meth c s₁, BodyLoose p l y (headSpec ws rm) cc maxL ret e s m args below meth c s₁ → c.maxLocals = maxL → (∀ x ∈ c.exceptionTable.toList, False) → Pc args s →
      W p l e (headSpec ws rm).room s m args below meth c s.heap [] 0 0 (vx_MQ below Qc XC args s mc ms free) (entryFrame m args maxL)) : vx_Met l y ws rm Pc Qc XC mc ms free := by
  refine MetFree.of_bodyS (code := cc) (maxLocals := maxL) (ret := ret) hy ?_ ?_
  · intro args s m h hn
    obtain ⟨meth, c, h1, h2, h3, h4, h5, h6, -, -⟩ := Cond.code_spec hn (atoms_spec (ws := ws) h _ (by rw [hw]; exact List.mem_cons_self))
    exact ⟨meth, c, h1, h2, h3, h4, h5, h6⟩
  · intro p e s m args below meth c s₁ B hml hP _
    have hh0 : s₁.heap = s.heap := by rw [B.state]; rfl
    have ht : ∀ x ∈ c.exceptionTable.toList, False := by
      obtain ⟨meth9, c9, h1, h2, -, -, -, -, h7, -⟩ := Cond.code_spec B.named (atoms_spec (ws := ws) B.pre _ (by rw [hw]; exact List.mem_cons_self))
      cases Option.some.inj (h1.symm.trans B.method)
      cases Option.some.inj (h2.symm.trans (Stand.of_body B).code)
      intro x hx
      rw [Array.isEmpty_iff.mp h7] at hx
      cases hx
    obtain ⟨t, a1, o, b1, b2, b3⟩ := body p e s m args below meth c s₁ B hml ht hP s₁ hh0 (Stand.of_body B)
    exact ⟨t, o, a1, b1, b2, b3⟩
/-- the table of a body with handlers -/
theorem vx_table {p : Program} {x y : MethodName} {S : Spec} {cc bytes : ByteArray} {maxL maxL' : Nat} {ret ret' : Option FieldType} {e : Env} {s s₁ : State} {m : MethodId} {args : Array Value} {below : List Frame} {meth : Method} {c : Code} {hh : List (Nat × Nat × Nat × Nat)}
    (B : BodyLoose p l y S cc maxL ret e s m args below meth c s₁) (h : (Cond.codeWith y bytes maxL' ret' hh).before args s = true) : c.exceptionTable.toList = tableOf hh := by
  obtain ⟨m9, meth9, c9, hn9, h1, h2, -, -, h6, -⟩ := Cond.codeWith_spec h
  cases Option.some.inj (hn9.symm.trans B.named)
  cases Option.some.inj (h1.symm.trans B.method)
  cases Option.some.inj (h2.symm.trans (Stand.of_body B).code)
  rw [← h6, table_eq]
end Bodies
end VXA
/-! ===== END ===== -/
/-! ===== BEGIN a static call of a method with an exception table ===== -/
section VXS
variable {p : Program} {l : Launch} {e : Env} {R : Room} {s : State} {m : MethodId} {args : Array Value} {below : List Frame} {meth : Method} {c : Code} {T : State} {H : Heap} {locs : List Loc} {cells slots : Nat}
abbrev vx_CSW (R : Room) (s : State) (args : Array Value) (own : String) (index : Nat) (y : MethodName) (bytes : ByteArray) (maxL : Nat) (ret : Option FieldType) (hh : List (Nat × Nat × Nat × Nat)) (ws : List Cond) (rm : Room) (mc ms n : Nat) : Prop :=
  (rm.cells = mc ∧ rm.slots = ms ∧ rm.frames + 1 ≤ R.frames ∧ 8 + (maxL + 11) + rm.locals ≤ R.locals ∧ (∀ w ∈ ws, ∀ (a' : Array Value) (U : State), s.WarmedH U.vm → w.before a' U = true) ∧ Cond.codeWith y bytes maxL ret hh ∈ ws) ∧
  (Cond.codeWith y bytes maxL ret hh).before args s = true ∧ (Cond.initialized y.cls).before args s = true ∧ (y.cls ≠ "java/lang/invoke/MethodHandle" ∧ y.cls ≠ "java/lang/invoke/VarHandle") ∧
  (∀ sig, parseMethodDescriptor y.desc = some sig → n = sig.parameters.length) ∧ (Cond.methodLink own index y).before args s = true ∧ (Cond.static y).before args s = true
theorem vx_cwSW {own : String} {index maxL mc ms : Nat} {y : MethodName} {bytes : ByteArray} {ret : Option FieldType} {hh : List (Nat × Nat × Nat × Nat)} {Ts ws ws' : List Cond} {rm : Room} (n : Nat) (ht : ∀ w ∈ Ts, w.before args s = true) (hT : GoodIn Ts (va_wsS own index y ws)) (hw : ws = Cond.codeWith y bytes maxL ret hh :: ws') (hrc : rm.cells = mc) (hrs : rm.slots = ms)
    (hd : y.cls ≠ "java/lang/invoke/MethodHandle" ∧ y.cls ≠ "java/lang/invoke/VarHandle" ∧ (parseMethodDescriptor y.desc).map (fun d => d.parameters.length) = some n) (hR : rm.frames + 1 ≤ R.frames ∧ 8 + (maxL + 11) + rm.locals ≤ R.locals) :
    vx_CSW R s args own index y bytes maxL ret hh ws rm mc ms n := by
  have ok : ∀ w ∈ va_wsS own index y ws, w.before args s = true := fun w h => ht w (hT w h).1
  have hG : GoodIn Ts ws := fun w h => hT w (by unfold va_wsS; exact List.mem_append_right _ h)
  have hc : Cond.codeWith y bytes maxL ret hh ∈ ws := by rw [hw]; exact List.mem_cons_self
  refine ⟨⟨hrc, hrs, hR.1, hR.2, pay_in ht hG, hc⟩, ht _ (hG _ hc).1, ok _ (by simp [va_wsS]), ⟨hd.1, hd.2.1⟩, fun sig h => ?_, ok _ (by simp [va_wsS]), ok _ (by simp [va_wsS])⟩
  have h2 := hd.2.2
  rw [h] at h2
  exact (Option.some.inj h2).symm
theorem vx_callSW (X : Stand p l e R s m args below meth c T locs cells slots) (hexec : p.tables.exec = Jvm.exec) {own : String} {index : Nat} {y : MethodName} {bytes : ByteArray} {maxL : Nat} {ret : Option FieldType} {hh : List (Nat × Nat × Nat × Nat)}
    (hown : s.vm.findClass own = some m.cls) (hlink : (Cond.methodLink own index y).before args s = true) (hstat : (Cond.static y).before args s = true) (hinit : (Cond.initialized y.cls).before args s = true)
    (hcode : (Cond.codeWith y bytes maxL ret hh).before args s = true) (hy : y.cls ≠ "java/lang/invoke/MethodHandle" ∧ y.cls ≠ "java/lang/invoke/VarHandle")
    {W9 : Nat} {Pre : Pt → Array Value → Prop} {Post : Pt → Array Value → Option Value → Pt → Prop} (hK : Back l R p e below s args y 3 W9 Pre Post)
    {g : JFrame} (hg : g.method = m) (hsize : g.locals.size = c.maxLocals) {argsL rest : List Value} (hlen : ∀ sig, parseMethodDescriptor y.desc = some sig → argsL.length = sig.parameters.length)
    (hstack : g.stack = argsL.reverse ++ rest) (hW : 2 * g.monitorRoom + (rest.map fun v => v.category).sum ≤ W9) (hdg : decode c.code g.pc = .ok (.invokestatic index, 3))
    (hpre : ∀ vm₁, s.WarmedH vm₁ → Pre ⟨T.setVm vm₁, locs, cells, slots⟩ argsL.toArray) :
    ∃ (v : Option Value) (vm₁ : Vm) (B : Pt), s.WarmedH vm₁ ∧ Stand p l e R s m args below meth c B.U B.locs B.cells B.slots ∧ Post ⟨T.setVm vm₁, locs, cells, slots⟩ argsL.toArray v B ∧
      ∀ target, Steps p.tables e below (B.U.setTop { g with pc := g.pc + 3, stack := v.toList ++ rest }) target → Steps p.tables e below (T.setTop g) target := by
  obtain ⟨mk, methM, cM, hnamed, hmethM, -, -, -, -, -, -, hsigM⟩ := Cond.codeWith_spec hcode
  have hstatic : methM.isStatic = true := Cond.static_spec hnamed hmethM hstat
  obtain ⟨kP, hkP, -⟩ := className_of_methodNamed hnamed
  have hinitP : kP.init = .initialized := Cond.initialized_spec (findClass_of_methodNamed hnamed) hkP hinit
  obtain ⟨vm₁, X₁, hstep₁⟩ := X.invokestatic hexec hown hlink hnamed hmethM hstatic hkP hinitP hy (g := g) hg (argsL := argsL) (rest := rest) (hlen _ hsigM) hstack hdg
  obtain ⟨v, B, X', hpost, hsteps⟩ := hK m meth c ⟨T.setVm vm₁, locs, cells, slots⟩ { g with stack := rest } (.invokestatic index) mk argsL.toArray X₁ hg hsize hdg hW (X₁.named hnamed) (hpre vm₁ X₁.warmed)
  exact ⟨v, vm₁, B, X₁.warmed, X', hpost, fun target h => hstep₁ _ fun acts => by rw [doInvoke_state]; exact hsteps.trans h⟩
theorem vx_runSW {y : MethodName} {bytes cc : ByteArray} {maxL nL mc ms n index : Nat} {ret : Option FieldType} {hh : List (Nat × Nat × Nat × Nat)} {ws : List Cond} {rm : Room} {Pc : Array Value → State → Prop} {Qc : Array Value → State → Outcome → State → Prop} {free : Addr → Prop} {Ts : List Cond} {own : String} {As rest : List Value} {g : JFrame}
    (S : CallFix p m c cc nL s args Ts own) (hM : Met l y ws rm Pc Qc mc ms free) (cw : vx_CSW R s args own index y bytes maxL ret hh ws rm mc ms n) (hp : PreS s H Pc As)
    (hg : g.method = m) (hn : As.length = n) (hsize : g.locals.size = nL) (hstack : g.stack = As.reverse ++ rest) (hW : 2 * g.monitorRoom + (rest.map fun v => v.category).sum ≤ 8) (hdg : decode cc g.pc = .ok (.invokestatic index, 3)) (hf : cells + mc ≤ R.cells ∧ slots + ms ≤ R.slots) :
    va_Run p l e R s m args below meth c H locs cells slots mc ms g rest (Qc As.toArray) (free) := by
  obtain ⟨⟨hrc, hrs, hfr, hlo, hws, hcw⟩, hcode, hini, hy, hlen, hl, hstt⟩ := cw
  have hK : Back l R p e below s args y 3 8 (PreOf R mc ms Pc) (PostOf Qc mc ms free) := va_backW (hh := hh) (bytes := bytes) (maxL := maxL) (ret := ret) hM hp.1 hrc hrs hfr hlo hws hcw (fun a' U hW => word_at hW (Or.inl (by first | rfl | simp [Cond.onTables, Cond.keeps, Cond.steady])) hini)
  obtain ⟨hx, hb, hml, ho, -⟩ := S
  intro T hT X
  obtain ⟨v, vm₁, ⟨U', l2, c2, s2⟩, hW₁, X', ⟨g', mk, t, L, e1, e2, hq, h1, hL, h2, h3⟩, st⟩ := vx_callSW X hx (hh := hh) (bytes := bytes) (maxL := maxL) (ret := ret) ho hl hstt hini hcode hy hK hg (hsize.trans hml.symm) (argsL := As) (rest := rest) (fun sig h => hn.trans (hlen sig h)) hstack hW (by rw [hb]; exact hdg)
    (fun vm₁ hW₁ => ⟨hf.1, hf.2, hp.2 (T.setVm vm₁) hT hW₁⟩)
  dsimp only [Pt.U, Pt.locs, Pt.cells, Pt.slots] at X' e1 e2 h1 h2 h3 st
  subst h1; subst h2; subst h3
  exact ⟨v, (T.setVm vm₁).calling g' mk As.toArray, t, U', L, hT, X', hL, e1, e2, hq, st⟩
/-- not caught here, past rows that name other classes: it goes on to the caller -/
theorem vx_outP {p : Program} {l : Launch} {e : Env} {R : Room} {s : State} {m : MethodId} {args : Array Value} {below : List Frame} {meth : Method} {c : Code} {H : Heap} {locs : List Loc} {cells slots : Nat} {free : Addr → Prop} {ls : Array Slot} {rest : List Value} {Qc : Array Value → State → Outcome → State → Prop} {XC : String → State → State → Prop}
    {pc : Nat} {own E : String} {ce : Cell} {q : Addr} {mc ms : Nat} (hown : s.vm.findClass own = some m.cls) (hlocks : meth.locks = false)
    (hpass : ∀ z ∈ c.exceptionTable.toList, covers z pc = false ∨ (z.catchType ≠ 0 ∧ ∃ nm : String, (Cond.classLink own z.catchType nm).before args s = true ∧ va_Nc E nm s)) (hcell : H[q]? = some ce) (hv : ce.vm = .none) (hcl : s.vm.findClass E = some ce.cls)
    (hx : ∀ t : State, t.heap = H → s.vm.Alike t.vm → XC E s t) (hf : ∀ z ∈ locs, free z.base) (hc : cells ≤ mc) (hs : slots ≤ ms) :
    vx_W p l e R s m args below meth c H locs cells slots (vx_MQ below Qc XC args s mc ms free) (F0 m pc ls rest) q := by
  intro T hT X
  have hpl : e.platform.magicAccessors = ({} : Platform).magicAccessors := by rw [X.admits.platform]
  obtain ⟨vm', hW', X', st⟩ := X.outThrough hlocks q (g := F0 m pc ls rest) rfl rfl rfl (cell := ce) (by rw [hT]; exact hcell) (by rw [hv]; rfl)
    (by obtain ⟨k9, h9, -⟩ := Vm.findClass_spec hcl; exact ⟨k9, h9⟩) (fun z hz => by
      rcases hpass z hz with h | ⟨hz0, nm, hl1, hn1⟩
      · exact Or.inl h
      · obtain ⟨c6, hc6, hcl6⟩ := Cond.classLink_spec hown hl1 e.platform hpl
        obtain ⟨a8, b8, h1, h2, h3⟩ := hn1
        cases Option.some.inj (h1.symm.trans hcl)
        cases Option.some.inj (h2.symm.trans hc6)
        exact Or.inr ⟨hz0, _, hcl6, h3⟩)
  obtain ⟨g₀, hfr⟩ := X'.frames_eq
  have hcell9 : ((T.setVm vm').setFrames (.throwing q :: below)).heap[q]? = some ce := by
    show T.heap[q]? = some ce
    rw [hT]; exact hcell
  have hend : Ended ((T.setVm vm').setFrames (.throwing q :: below)) below (.threw q) := State.frames_setFrames _ (State.cur_lt_of_frames hfr)
  refine ⟨(T.setVm vm').setFrames (.throwing q :: below), ?_, .threw q, X'.here.running, hend, Or.inr ⟨q, rfl, E, ce, locs, hx _ hT (X'.ends _).1.alike, hcell9, hv, hcl, (X'.ends _).1, (X'.ends _).2.mono hc hs, hf⟩⟩
  rw [X.pushThrowing_eq]
  exact st
/-- a thing of a world lies in the heap -/
theorem vx_lt {D : va_G} {cl : List vw_C} {ws : va_W} {H1 : Heap} (h : va_P D cl ws H1) {k : Nat} {q : Nat × va_E} (hk : ws[k]? = some q) : q.1 < H1.size := (h k q hk).lt
end VXS
/-! ===== END ===== -/
/-! ===== BEGIN methods with a table of their own: called by a name, returning or throwing ===== -/
section VXH
/-! vx_backW, vx_callVX, vx_callSX, vx_callVW, vx_runVW, vx_runVX, vx_runSX, vx_ofWH follow the same proofs as their sisters above (Free/Laws.lean, Shelf42/LK1.lean); vx_outP calls Shelf42/NT130.lean (outThrough). -/
section
variable {l : Launch} {R : Room} {p : Program} {e : Env} {below : List Frame} {s : State} {sargs : Array Value} {y : MethodName} {len W9 : Nat}
theorem vx_backW {ws : List Cond} {rm : Room} {Pc : Array Value → State → Prop} {Qc : Array Value → State → Outcome → State → Prop} {XC : String → State → State → Prop} {mc ms : Nat} {free : Addr → Prop} {bytes : ByteArray} {maxL : Nat} {ret : Option FieldType} {hh : List (Nat × Nat × Nat × Nat)}
    (hM : vx_Met l y ws rm Pc Qc XC mc ms free) (hblind : FrameBlind Pc) (hrc : rm.cells = mc) (hrs : rm.slots = ms)
    (hframes : rm.frames + 1 ≤ R.frames) (hlocals : W9 + (maxL + 11) + rm.locals ≤ R.locals)
    (hws : ∀ w ∈ ws, ∀ a' U, s.WarmedH U.vm → w.before a' U = true) (hcode : Cond.codeWith y bytes maxL ret hh ∈ ws) (hinit : ∀ a' U, s.WarmedH U.vm → (Cond.initialized y.cls).before a' U = true) :
    vx_Back l R p e below s sargs y len W9 (PreOf R mc ms Pc) (PostOf Qc mc ms free) (vx_Post XC mc ms free) := by
  intro m meth c A g ig mk a X hg hsize hdg hW hn hp
  have h1 : (headSpec ws rm).pre.before a A.U = true := atoms_intro fun w hw => hws w hw _ _ X.warmed
  have h2 : (Cond.codeWith y bytes maxL ret hh).before a A.U = true := hws _ hcode _ _ X.warmed
  have h3 : (Cond.initialized y.cls).before a A.U = true := hinit _ _ X.warmed
  have h4 : A.cells + (headSpec ws rm).room.cells ≤ R.cells := by rw [show (headSpec ws rm).room.cells = mc from hrc]; exact hp.1
  have h5 : A.slots + (headSpec ws rm).room.slots ≤ R.slots := by rw [show (headSpec ws rm).room.slots = ms from hrs]; exact hp.2.1
  have hPc : Pc a (A.U.calling g mk a) := hblind _ _ _ _ hp.2.2
  obtain ⟨U, Ls, c0, s0⟩ := A
  dsimp only [Pt.U, Pt.locs, Pt.cells, Pt.slots] at h1 h2 h3 h4 h5 X hn hPc ⊢
  obtain ⟨m9, methY, cY, hn9, hmY, hcY, -, hlY, -⟩ := Cond.codeWith_spec h2
  cases Option.some.inj (hn9.symm.trans hn)
  obtain ⟨kY, hkY, -⟩ := className_of_methodNamed hn
  have hinitY : kY.init = .initialized := Cond.initialized_spec (findClass_of_methodNamed hn) hkY h3
  have h : At U g.method c below := by rw [hg]; exact X.here
  have hlocals9 : W9 + (maxL + 11) + (headSpec ws rm).room.locals ≤ R.locals := hlocals
  have happ : (headSpec ws rm).appliesLoose y e.platform (U.calling g mk a) = true :=
    Spec.appliesLoose_calling (g := g) h hdg hn hkY hinitY
      (X.room_calling (g := g) (R' := (headSpec ws rm).room) hsize hmY hcY hframes (by rw [hlY]; omega) h4 h5) h1
  obtain ⟨mid, hmid⟩ := h.above
  have hfr : (U.setTop g).frames = (.java g :: mid) ++ below := by rw [State.frames_setTop' g h.top, hmid]; rfl
  obtain ⟨o, s₂, hsteps, -, hend, hq⟩ := Steps.callFree hM p X.admits X.cas X.clock (acts := []) hfr happ hPc trivial
  have hq' : vx_Q Qc XC mc ms free a (U.calling g mk a) o s₂ := hq
  rw [State.frames_setTop' g h.top] at hend
  obtain ⟨g₀, hg0⟩ := Option.isSome_iff_exists.mp h.top
  obtain ⟨r, hr⟩ := State.topJava?_eq_some.mp hg0
  have hr' : (({ U with heap := s₂.heap, slotsUsed := s₂.slotsUsed } : State).setVm s₂.vm).frames = .java g₀ :: r := hr
  rcases hq' with ⟨hqc, L, hfe, hL⟩ | ⟨q, rfl, E, ce, L, hx, hce, hcv, hcl, hW₂, hsm, hL⟩
  · obtain ⟨⟨v, rfl⟩, hW₂, e2, q2, q3, q4, q5, q6⟩ := id hfe
    have e3 : s₂ = ({ (U.calling g mk a).setFrames s₂.frames with heap := s₂.heap, slotsUsed := s₂.slotsUsed } : State).setVm s₂.vm := by
      have : s₂ = ({ s₂ with vm := (U.calling g mk a).vm } : State).setVm s₂.vm := rfl
      rw [e2] at this
      exact this
    obtain ⟨c₂, i₂, len₂, hc₂, hd₂, hf₂⟩ := hend
    have hW' : U.WarmedH s₂.vm := hW₂
    have hcc : c₂ = c := by
      have h1 : s₂.code? g.method = U.code? g.method := by
        rw [State.code?_eq, State.code?_eq, hW'.alike.method?]
      exact Option.some.inj (hc₂.symm.trans (h1.trans h.code))
    subst hcc
    have hlen : len₂ = len := by rw [hdg] at hd₂; cases hd₂; rfl
    subst hlen
    have hs₂ : s₂ = (({ U with heap := s₂.heap, slotsUsed := s₂.slotsUsed } : State).setVm s₂.vm).setTop { g with pc := g.pc + len₂, stack := v.toList ++ g.stack } := by
      refine e3.trans ?_
      rw [hf₂, State.calling_eq h.top, State.setFrames_setFrames, State.setTop_of_frames _ hr', hr]
      rfl
    have hsame : U.sameButNew ({ U with heap := s₂.heap, slotsUsed := s₂.slotsUsed } : State) L mc ms := by
      refine ⟨?_, q2, q3, q4, q5, q6⟩
      obtain ⟨t, ht, -⟩ := State.frames_cons hr
      show ({ U with heap := s₂.heap, slotsUsed := s₂.slotsUsed } : State) = { U.setFrames U.frames with heap := s₂.heap, slotsUsed := s₂.slotsUsed }
      rw [State.setFrames_self ht]
    subst hg
    refine Or.inl ⟨v, ⟨(({ U with heap := s₂.heap, slotsUsed := s₂.slotsUsed } : State).setVm s₂.vm), Ls ++ L, c0 + mc, s0 + ms⟩,
      ⟨X.admits, X.cas, X.clock, X.frames, X.room, X.hears, X.method, X.code, (X.here.setHeapUsed s₂.heap s₂.slotsUsed).setVm hW'.alike, X.tail, State.WarmedH.trans X.warmed hW', X.limits, X.bytes, X.same.trans (hsame.setVm s.vm)⟩,
      ⟨g, mk, s₂, L, rfl, rfl, hqc, rfl, hL, rfl, rfl⟩, ?_⟩
    show Steps p.tables e below _ ((({ U with heap := s₂.heap, slotsUsed := s₂.slotsUsed } : State).setVm s₂.vm).setTop { g with pc := g.pc + len₂, stack := v.toList ++ g.stack })
    rw [← hs₂]
    exact hsteps
  · obtain ⟨e2, q2, q3, q4, q5, q6⟩ := id hsm
    have e3 : s₂ = ({ (U.calling g mk a).setFrames s₂.frames with heap := s₂.heap, slotsUsed := s₂.slotsUsed } : State).setVm s₂.vm := by
      have : s₂ = ({ s₂ with vm := (U.calling g mk a).vm } : State).setVm s₂.vm := rfl
      rw [e2] at this
      exact this
    have hf₂ : s₂.frames = .throwing q :: .java g :: U.frames.tail := hend
    have hW' : U.WarmedH s₂.vm := hW₂
    have hs₂ : s₂ = ((({ U with heap := s₂.heap, slotsUsed := s₂.slotsUsed } : State).setVm s₂.vm).setTop g).pushFrame (.throwing q) := by
      refine e3.trans ?_
      rw [hf₂, State.calling_eq h.top, State.setFrames_setFrames, State.pushFrame, State.frames_setTop _ hr', State.setTop_of_frames _ hr', State.setFrames_setFrames, hr]
      rfl
    have hsame : U.sameButNew ({ U with heap := s₂.heap, slotsUsed := s₂.slotsUsed } : State) L mc ms := by
      refine ⟨?_, q2, q3, q4, q5, q6⟩
      obtain ⟨t, ht, -⟩ := State.frames_cons hr
      show ({ U with heap := s₂.heap, slotsUsed := s₂.slotsUsed } : State) = { U.setFrames U.frames with heap := s₂.heap, slotsUsed := s₂.slotsUsed }
      rw [State.setFrames_self ht]
    subst hg
    refine Or.inr ⟨q, ⟨(({ U with heap := s₂.heap, slotsUsed := s₂.slotsUsed } : State).setVm s₂.vm), Ls ++ L, c0 + mc, s0 + ms⟩,
      ⟨X.admits, X.cas, X.clock, X.frames, X.room, X.hears, X.method, X.code, (X.here.setHeapUsed s₂.heap s₂.slotsUsed).setVm hW'.alike, X.tail, State.WarmedH.trans X.warmed hW', X.limits, X.bytes, X.same.trans (hsame.setVm s.vm)⟩,
      ⟨g, mk, s₂, L, E, ce, rfl, rfl, hx, hce, hcv, hcl, rfl, hL, rfl, rfl⟩, ?_⟩
    show Steps p.tables e below _ (((({ U with heap := s₂.heap, slotsUsed := s₂.slotsUsed } : State).setVm s₂.vm).setTop g).pushFrame (.throwing q))
    rw [← hs₂]
    exact hsteps
end
variable {p : Program} {l : Launch} {e : Env} {R : Room} {s : State} {m : MethodId} {args : Array Value} {below : List Frame} {meth : Method} {c : Code} {T : State} {H : Heap} {locs : List Loc} {cells slots : Nat}
theorem vx_callVX (X : Stand p l e R s m args below meth c T locs cells slots) (hexec : p.tables.exec = Jvm.exec) {own C : String} {index : Nat} {y : MethodName} {bytes : ByteArray} {maxL : Nat} {ret : Option FieldType} {hh : List (Nat × Nat × Nat × Nat)}
    (hown : s.vm.findClass own = some m.cls) (hlink : (Cond.methodLink own index y).before args s = true) (hinst : (Cond.instanceMethod y).before args s = true) (hsel : (Cond.selects C y y).before args s = true)
    (hcode : (Cond.codeWith y bytes maxL ret hh).before args s = true) (hy : y.cls ≠ "java/lang/invoke/MethodHandle" ∧ y.cls ≠ "java/lang/invoke/VarHandle")
    {W9 : Nat} {Pre : Pt → Array Value → Prop} {Post : Pt → Array Value → Option Value → Pt → Prop} {PostX : Pt → Array Value → Addr → Pt → Prop} (hK : vx_Back l R p e below s args y 3 W9 Pre Post PostX)
    {b : Addr} {cellB : Cell} (hcell : T.heap[b]? = some cellB) (hobj : cellB.vm.isStatics = false) (hcls : s.vm.findClass C = some cellB.cls)
    {g : JFrame} (hg : g.method = m) (hsize : g.locals.size = c.maxLocals) {argsL rest : List Value} (hlen : ∀ sig, parseMethodDescriptor y.desc = some sig → argsL.length = sig.parameters.length)
    (hstack : g.stack = argsL.reverse ++ .ref b :: rest) (hW : 2 * g.monitorRoom + (rest.map fun v => v.category).sum ≤ W9) (hdg : decode c.code g.pc = .ok (.invokevirtual index, 3))
    (hpre : ∀ vm₁, s.WarmedH vm₁ → Pre ⟨T.setVm vm₁, locs, cells, slots⟩ (Value.ref b :: argsL).toArray) :
    (∃ (v : Option Value) (vm₁ : Vm) (B : Pt), s.WarmedH vm₁ ∧ Stand p l e R s m args below meth c B.U B.locs B.cells B.slots ∧ Post ⟨T.setVm vm₁, locs, cells, slots⟩ (Value.ref b :: argsL).toArray v B ∧
      ∀ target, Steps p.tables e below (B.U.setTop { g with pc := g.pc + 3, stack := v.toList ++ rest }) target → Steps p.tables e below (T.setTop g) target) ∨
    (∃ (q : Addr) (vm₁ : Vm) (B : Pt), s.WarmedH vm₁ ∧ Stand p l e R s m args below meth c B.U B.locs B.cells B.slots ∧ PostX ⟨T.setVm vm₁, locs, cells, slots⟩ (Value.ref b :: argsL).toArray q B ∧
      Steps p.tables e below (T.setTop g) ((B.U.setTop { g with stack := rest }).pushFrame (.throwing q))) := by
  obtain ⟨mk, methM, hnamed, hmethM, hstM, habM⟩ := Cond.instanceMethod_spec hinst
  obtain ⟨m8, methM', cM, hn8, hmethM', -, -, -, -, -, -, hsigM⟩ := Cond.codeWith_spec hcode
  cases Option.some.inj (hn8.symm.trans hnamed)
  cases hmethM.symm.trans hmethM'
  obtain ⟨c2, r2, m2, q1, q2, q3, q4, kP, hkP, hkPi⟩ := Cond.selects_spec hsel
  cases hcls.symm.trans q1
  cases (State.methodFound?_of_named hnamed hy).symm.trans q2
  cases hnamed.symm.trans q3
  have hselP : selectMethod e.platform s.vm cellB.cls mk = .method mk := by rw [Launch.admits_selectMethod X.admits]; exact q4
  obtain ⟨vm₁, X₁, hstep₁⟩ := X.invokevirtual hexec hown hlink hnamed hmethM hstM hkP hkPi hy (a := b) (cell := cellB) hcell
    (fun z h => by rw [h] at hobj; cases hobj) hselP hmethM habM hkP hkPi (g := g) hg (argsL := argsL) (rest := rest) (hlen _ hsigM) hstack hdg
  rcases hK m meth c ⟨T.setVm vm₁, locs, cells, slots⟩ { g with stack := rest } (.invokevirtual index) mk (Value.ref b :: argsL).toArray X₁ hg hsize hdg hW (X₁.named hnamed) (hpre vm₁ X₁.warmed) with ⟨v, B, X', hpost, hsteps⟩ | ⟨q, B, X', hpost, hsteps⟩
  · exact Or.inl ⟨v, vm₁, B, X₁.warmed, X', hpost, fun target h => hstep₁ _ fun acts => by rw [doInvoke_state]; exact hsteps.trans h⟩
  · exact Or.inr ⟨q, vm₁, B, X₁.warmed, X', hpost, hstep₁ _ fun acts => by rw [doInvoke_state]; exact hsteps⟩
theorem vx_callSX (X : Stand p l e R s m args below meth c T locs cells slots) (hexec : p.tables.exec = Jvm.exec) {own : String} {index : Nat} {y : MethodName} {bytes : ByteArray} {maxL : Nat} {ret : Option FieldType} {hh : List (Nat × Nat × Nat × Nat)}
    (hown : s.vm.findClass own = some m.cls) (hlink : (Cond.methodLink own index y).before args s = true) (hstat : (Cond.static y).before args s = true) (hinit : (Cond.initialized y.cls).before args s = true)
    (hcode : (Cond.codeWith y bytes maxL ret hh).before args s = true) (hy : y.cls ≠ "java/lang/invoke/MethodHandle" ∧ y.cls ≠ "java/lang/invoke/VarHandle")
    {W9 : Nat} {Pre : Pt → Array Value → Prop} {Post : Pt → Array Value → Option Value → Pt → Prop} {PostX : Pt → Array Value → Addr → Pt → Prop} (hK : vx_Back l R p e below s args y 3 W9 Pre Post PostX)
    {g : JFrame} (hg : g.method = m) (hsize : g.locals.size = c.maxLocals) {argsL rest : List Value} (hlen : ∀ sig, parseMethodDescriptor y.desc = some sig → argsL.length = sig.parameters.length)
    (hstack : g.stack = argsL.reverse ++ rest) (hW : 2 * g.monitorRoom + (rest.map fun v => v.category).sum ≤ W9) (hdg : decode c.code g.pc = .ok (.invokestatic index, 3))
    (hpre : ∀ vm₁, s.WarmedH vm₁ → Pre ⟨T.setVm vm₁, locs, cells, slots⟩ argsL.toArray) :
    (∃ (v : Option Value) (vm₁ : Vm) (B : Pt), s.WarmedH vm₁ ∧ Stand p l e R s m args below meth c B.U B.locs B.cells B.slots ∧ Post ⟨T.setVm vm₁, locs, cells, slots⟩ argsL.toArray v B ∧
      ∀ target, Steps p.tables e below (B.U.setTop { g with pc := g.pc + 3, stack := v.toList ++ rest }) target → Steps p.tables e below (T.setTop g) target) ∨
    (∃ (q : Addr) (vm₁ : Vm) (B : Pt), s.WarmedH vm₁ ∧ Stand p l e R s m args below meth c B.U B.locs B.cells B.slots ∧ PostX ⟨T.setVm vm₁, locs, cells, slots⟩ argsL.toArray q B ∧
      Steps p.tables e below (T.setTop g) ((B.U.setTop { g with stack := rest }).pushFrame (.throwing q))) := by
  obtain ⟨mk, methM, cM, hnamed, hmethM, -, -, -, -, -, -, hsigM⟩ := Cond.codeWith_spec hcode
  have hstatic : methM.isStatic = true := Cond.static_spec hnamed hmethM hstat
  obtain ⟨kP, hkP, -⟩ := className_of_methodNamed hnamed
  have hinitP : kP.init = .initialized := Cond.initialized_spec (findClass_of_methodNamed hnamed) hkP hinit
  obtain ⟨vm₁, X₁, hstep₁⟩ := X.invokestatic hexec hown hlink hnamed hmethM hstatic hkP hinitP hy (g := g) hg (argsL := argsL) (rest := rest) (hlen _ hsigM) hstack hdg
  rcases hK m meth c ⟨T.setVm vm₁, locs, cells, slots⟩ { g with stack := rest } (.invokestatic index) mk argsL.toArray X₁ hg hsize hdg hW (X₁.named hnamed) (hpre vm₁ X₁.warmed) with ⟨v, B, X', hpost, hsteps⟩ | ⟨q, B, X', hpost, hsteps⟩
  · exact Or.inl ⟨v, vm₁, B, X₁.warmed, X', hpost, fun target h => hstep₁ _ fun acts => by rw [doInvoke_state]; exact hsteps.trans h⟩
  · exact Or.inr ⟨q, vm₁, B, X₁.warmed, X', hpost, hstep₁ _ fun acts => by rw [doInvoke_state]; exact hsteps⟩
theorem vx_callVW (X : Stand p l e R s m args below meth c T locs cells slots) (hexec : p.tables.exec = Jvm.exec) {own C : String} {index : Nat} {y : MethodName} {bytes : ByteArray} {maxL : Nat} {ret : Option FieldType} {hh : List (Nat × Nat × Nat × Nat)}
    (hown : s.vm.findClass own = some m.cls) (hlink : (Cond.methodLink own index y).before args s = true) (hinst : (Cond.instanceMethod y).before args s = true) (hsel : (Cond.selects C y y).before args s = true)
    (hcode : (Cond.codeWith y bytes maxL ret hh).before args s = true) (hy : y.cls ≠ "java/lang/invoke/MethodHandle" ∧ y.cls ≠ "java/lang/invoke/VarHandle")
    {W9 : Nat} {Pre : Pt → Array Value → Prop} {Post : Pt → Array Value → Option Value → Pt → Prop} (hK : Back l R p e below s args y 3 W9 Pre Post)
    {b : Addr} {cellB : Cell} (hcell : T.heap[b]? = some cellB) (hobj : cellB.vm.isStatics = false) (hcls : s.vm.findClass C = some cellB.cls)
    {g : JFrame} (hg : g.method = m) (hsize : g.locals.size = c.maxLocals) {argsL rest : List Value} (hlen : ∀ sig, parseMethodDescriptor y.desc = some sig → argsL.length = sig.parameters.length)
    (hstack : g.stack = argsL.reverse ++ .ref b :: rest) (hW : 2 * g.monitorRoom + (rest.map fun v => v.category).sum ≤ W9) (hdg : decode c.code g.pc = .ok (.invokevirtual index, 3))
    (hpre : ∀ vm₁, s.WarmedH vm₁ → Pre ⟨T.setVm vm₁, locs, cells, slots⟩ (Value.ref b :: argsL).toArray) :
    ∃ (v : Option Value) (vm₁ : Vm) (B : Pt), s.WarmedH vm₁ ∧ Stand p l e R s m args below meth c B.U B.locs B.cells B.slots ∧ Post ⟨T.setVm vm₁, locs, cells, slots⟩ (Value.ref b :: argsL).toArray v B ∧
      ∀ target, Steps p.tables e below (B.U.setTop { g with pc := g.pc + 3, stack := v.toList ++ rest }) target → Steps p.tables e below (T.setTop g) target := by
  obtain ⟨mk, methM, hnamed, hmethM, hstM, habM⟩ := Cond.instanceMethod_spec hinst
  obtain ⟨m8, methM', cM, hn8, hmethM', -, -, -, -, -, -, hsigM⟩ := Cond.codeWith_spec hcode
  cases Option.some.inj (hn8.symm.trans hnamed)
  cases hmethM.symm.trans hmethM'
  obtain ⟨c2, r2, m2, q1, q2, q3, q4, kP, hkP, hkPi⟩ := Cond.selects_spec hsel
  cases hcls.symm.trans q1
  cases (State.methodFound?_of_named hnamed hy).symm.trans q2
  cases hnamed.symm.trans q3
  have hselP : selectMethod e.platform s.vm cellB.cls mk = .method mk := by rw [Launch.admits_selectMethod X.admits]; exact q4
  obtain ⟨vm₁, X₁, hstep₁⟩ := X.invokevirtual hexec hown hlink hnamed hmethM hstM hkP hkPi hy (a := b) (cell := cellB) hcell
    (fun z h => by rw [h] at hobj; cases hobj) hselP hmethM habM hkP hkPi (g := g) hg (argsL := argsL) (rest := rest) (hlen _ hsigM) hstack hdg
  obtain ⟨v, B, X', hpost, hsteps⟩ := hK m meth c ⟨T.setVm vm₁, locs, cells, slots⟩ { g with stack := rest } (.invokevirtual index) mk (Value.ref b :: argsL).toArray X₁ hg hsize hdg hW (X₁.named hnamed) (hpre vm₁ X₁.warmed)
  exact ⟨v, vm₁, B, X₁.warmed, X', hpost, fun target h => hstep₁ _ fun acts => by rw [doInvoke_state]; exact hsteps.trans h⟩
abbrev vx_CVW (R : Room) (s : State) (args : Array Value) (own C : String) (index : Nat) (y : MethodName) (bytes : ByteArray) (maxL : Nat) (ret : Option FieldType) (hh : List (Nat × Nat × Nat × Nat)) (ws : List Cond) (rm : Room) (mc ms n : Nat) : Prop :=
  (rm.cells = mc ∧ rm.slots = ms ∧ rm.frames + 1 ≤ R.frames ∧ 8 + (maxL + 11) + rm.locals ≤ R.locals ∧ (∀ w ∈ ws, ∀ (a' : Array Value) (U : State), s.WarmedH U.vm → w.before a' U = true) ∧ Cond.codeWith y bytes maxL ret hh ∈ ws) ∧
  (Cond.codeWith y bytes maxL ret hh).before args s = true ∧ (Cond.initialized y.cls).before args s = true ∧ (y.cls ≠ "java/lang/invoke/MethodHandle" ∧ y.cls ≠ "java/lang/invoke/VarHandle") ∧
  (∀ sig, parseMethodDescriptor y.desc = some sig → n = sig.parameters.length) ∧ (Cond.methodLink own index y).before args s = true ∧ (Cond.instanceMethod y).before args s = true ∧ (Cond.selects C y y).before args s = true
theorem vx_cwVW {own C : String} {index maxL mc ms : Nat} {y : MethodName} {bytes : ByteArray} {ret : Option FieldType} {hh : List (Nat × Nat × Nat × Nat)} {Ts ws ws' : List Cond} {rm : Room} (n : Nat) (ht : ∀ w ∈ Ts, w.before args s = true) (hT : GoodIn Ts (wsV own index C y ws)) (hw : ws = Cond.codeWith y bytes maxL ret hh :: ws') (hrc : rm.cells = mc) (hrs : rm.slots = ms)
    (hd : y.cls = C ∧ y.cls ≠ "java/lang/invoke/MethodHandle" ∧ y.cls ≠ "java/lang/invoke/VarHandle" ∧ (parseMethodDescriptor y.desc).map (fun d => d.parameters.length) = some n) (hR : rm.frames + 1 ≤ R.frames ∧ 8 + (maxL + 11) + rm.locals ≤ R.locals) :
    vx_CVW R s args own C index y bytes maxL ret hh ws rm mc ms n := by
  obtain ⟨hC, hd⟩ := hd
  subst hC
  have ok : ∀ w ∈ wsV own index y.cls y ws, w.before args s = true := fun w h => ht w (hT w h).1
  have hG : GoodIn Ts ws := fun w h => hT w (by unfold wsV; exact List.mem_append_right _ h)
  have hc : Cond.codeWith y bytes maxL ret hh ∈ ws := by rw [hw]; exact List.mem_cons_self
  refine ⟨⟨hrc, hrs, hR.1, hR.2, pay_in ht hG, hc⟩, ht _ (hG _ hc).1, ok _ (by simp [wsV]), ⟨hd.1, hd.2.1⟩, fun sig h => ?_, ok _ (by simp [wsV]), ok _ (by simp [wsV]), ok _ (by simp [wsV])⟩
  have h2 := hd.2.2
  rw [h] at h2
  exact (Option.some.inj h2).symm
theorem vx_runVW {y : MethodName} {bytes cc : ByteArray} {maxL nL mc ms n index : Nat} {ret : Option FieldType} {hh : List (Nat × Nat × Nat × Nat)} {ws : List Cond} {rm : Room} {Pc : Array Value → State → Prop} {Qc : Array Value → State → Outcome → State → Prop} {free : Addr → Prop} {Ts : List Cond} {own C : String} {b : Addr} {As rest : List Value} {g : JFrame}
    (S : CallFix p m c cc nL s args Ts own) (hM : Met l y ws rm Pc Qc mc ms free) (cw : vx_CVW R s args own C index y bytes maxL ret hh ws rm mc ms n) (hp : PreV s H C b Pc As)
    (hg : g.method = m) (hn : As.length = n) (hsize : g.locals.size = nL) (hstack : g.stack = As.reverse ++ .ref b :: rest) (hW : 2 * g.monitorRoom + (rest.map fun v => v.category).sum ≤ 8) (hdg : decode cc g.pc = .ok (.invokevirtual index, 3)) (hf : cells + mc ≤ R.cells ∧ slots + ms ≤ R.slots) :
    va_Run p l e R s m args below meth c H locs cells slots mc ms g rest (Qc (Value.ref b :: As).toArray) free := by
  obtain ⟨⟨hrc, hrs, hfr, hlo, hws, hcw⟩, hcode, hini, hy, hlen, hl, hin, hse⟩ := cw
  have hK : Back l R p e below s args y 3 8 (PreOf R mc ms Pc) (PostOf Qc mc ms free) := va_backW (hh := hh) (bytes := bytes) (maxL := maxL) (ret := ret) hM hp.1 hrc hrs hfr hlo hws hcw (fun a' U hW => word_at hW (Or.inl (by first | rfl | simp [Cond.onTables, Cond.keeps, Cond.steady])) hini)
  obtain ⟨hx, hb, hml, ho, -⟩ := S
  obtain ⟨-, ⟨cellB, hcB, hoB, hclB⟩, hPc⟩ := hp
  intro T hT X
  obtain ⟨v, vm₁, ⟨U', l2, c2, s2⟩, hW₁, X', ⟨g', mk, t, L, e1, e2, hq, h1, hL, h2, h3⟩, st⟩ := vx_callVW X hx (C := C) (hh := hh) (bytes := bytes) (maxL := maxL) (ret := ret) ho hl hin hse hcode hy hK (by rw [hT]; exact hcB) hoB hclB hg (hsize.trans hml.symm) (argsL := As) (rest := rest) (fun sig h => hn.trans (hlen sig h)) hstack hW (by rw [hb]; exact hdg)
    (fun vm₁ hW₁ => ⟨hf.1, hf.2, hPc (T.setVm vm₁) hT hW₁⟩)
  dsimp only [Pt.U, Pt.locs, Pt.cells, Pt.slots] at X' e1 e2 h1 h2 h3 st
  subst h1; subst h2; subst h3
  exact ⟨v, (T.setVm vm₁).calling g' mk (Value.ref b :: As).toArray, t, U', L, hT, X', hL, e1, e2, hq, st⟩
section
variable {y : MethodName} {bytes cc : ByteArray} {maxL nL mc ms n index : Nat} {ret : Option FieldType} {ws : List Cond} {rm : Room} {Pc : Array Value → State → Prop} {Qc : Array Value → State → Outcome → State → Prop} {XC : String → State → State → Prop} {free : Addr → Prop} {Ts : List Cond} {own C : String} {b : Addr} {As rest : List Value} {g : JFrame}
theorem vx_runVX {hh : List (Nat × Nat × Nat × Nat)} (S : CallFix p m c cc nL s args Ts own) (hM : vx_Met l y ws rm Pc Qc XC mc ms free) (cw : vx_CVW R s args own C index y bytes maxL ret hh ws rm mc ms n) (hp : PreV s H C b Pc As)
    (hg : g.method = m) (hn : As.length = n) (hsize : g.locals.size = nL) (hstack : g.stack = As.reverse ++ .ref b :: rest) (hW : 2 * g.monitorRoom + (rest.map fun v => v.category).sum ≤ 8) (hdg : decode cc g.pc = .ok (.invokevirtual index, 3)) (hf : cells + mc ≤ R.cells ∧ slots + ms ≤ R.slots) :
    vx_Run p l e R s m args below meth c H locs cells slots mc ms g rest (Qc (Value.ref b :: As).toArray) XC free := by
  obtain ⟨⟨hrc, hrs, hfr, hlo, hws, hcw⟩, hcode, hini, hy, hlen, hl, hin, hse⟩ := cw
  have hK : vx_Back l R p e below s args y 3 8 (PreOf R mc ms Pc) (PostOf Qc mc ms free) (vx_Post XC mc ms free) := vx_backW (hh := hh) (bytes := bytes) (maxL := maxL) (ret := ret) hM hp.1 hrc hrs hfr hlo hws hcw (fun a' U hW => word_at hW (Or.inl (by first | rfl | simp [Cond.onTables, Cond.keeps, Cond.steady])) hini)
  obtain ⟨hx, hb, hml, ho, -⟩ := S
  obtain ⟨-, ⟨cellB, hcB, hoB, hclB⟩, hPc⟩ := hp
  intro T hT X
  rcases vx_callVX X hx (C := C) (hh := hh) (bytes := bytes) (maxL := maxL) (ret := ret) ho hl hin hse hcode hy hK (by rw [hT]; exact hcB) hoB hclB hg (hsize.trans hml.symm) (argsL := As) (rest := rest) (fun sig h => hn.trans (hlen sig h)) hstack hW (by rw [hb]; exact hdg)
    (fun vm₁ hW₁ => ⟨hf.1, hf.2, hPc (T.setVm vm₁) hT hW₁⟩) with ⟨v, vm₁, ⟨U', l2, c2, s2⟩, hW₁, X', ⟨g', mk, t, L, e1, e2, hq, h1, hL, h2, h3⟩, st⟩ | ⟨q, vm₁, ⟨U', l2, c2, s2⟩, hW₁, X', ⟨g', mk, t, L, E, ce, e1, e2, hq, hce, hcv, hcl, h1, hL, h2, h3⟩, st⟩
  · dsimp only [Pt.U, Pt.locs, Pt.cells, Pt.slots] at X' e1 e2 h1 h2 h3 st
    subst h1; subst h2; subst h3
    exact Or.inl ⟨v, (T.setVm vm₁).calling g' mk (Value.ref b :: As).toArray, t, U', L, hT, X', hL, e1, e2, hq, st⟩
  · dsimp only [Pt.U, Pt.locs, Pt.cells, Pt.slots] at X' e1 e2 h1 h2 h3 st hcl
    subst h1; subst h2; subst h3
    exact Or.inr ⟨q, (T.setVm vm₁).calling g' mk (Value.ref b :: As).toArray, t, U', L, E, ce, hT, X', hL, e1, e2, hq, hce, hcv, vx_cls hW₁ hcl, st⟩
theorem vx_runSX {hh : List (Nat × Nat × Nat × Nat)} (S : CallFix p m c cc nL s args Ts own) (hM : vx_Met l y ws rm Pc Qc XC mc ms free) (cw : vx_CSW R s args own index y bytes maxL ret hh ws rm mc ms n) (hp : PreS s H Pc As)
    (hg : g.method = m) (hn : As.length = n) (hsize : g.locals.size = nL) (hstack : g.stack = As.reverse ++ rest) (hW : 2 * g.monitorRoom + (rest.map fun v => v.category).sum ≤ 8) (hdg : decode cc g.pc = .ok (.invokestatic index, 3)) (hf : cells + mc ≤ R.cells ∧ slots + ms ≤ R.slots) :
    vx_Run p l e R s m args below meth c H locs cells slots mc ms g rest (Qc As.toArray) XC free := by
  obtain ⟨⟨hrc, hrs, hfr, hlo, hws, hcw⟩, hcode, hini, hy, hlen, hl, hstt⟩ := cw
  have hK : vx_Back l R p e below s args y 3 8 (PreOf R mc ms Pc) (PostOf Qc mc ms free) (vx_Post XC mc ms free) := vx_backW (hh := hh) (bytes := bytes) (maxL := maxL) (ret := ret) hM hp.1 hrc hrs hfr hlo hws hcw (fun a' U hW => word_at hW (Or.inl (by first | rfl | simp [Cond.onTables, Cond.keeps, Cond.steady])) hini)
  obtain ⟨hx, hb, hml, ho, -⟩ := S
  intro T hT X
  rcases vx_callSX X hx (hh := hh) (bytes := bytes) (maxL := maxL) (ret := ret) ho hl hstt hini hcode hy hK hg (hsize.trans hml.symm) (argsL := As) (rest := rest) (fun sig h => hn.trans (hlen sig h)) hstack hW (by rw [hb]; exact hdg)
    (fun vm₁ hW₁ => ⟨hf.1, hf.2, hp.2 (T.setVm vm₁) hT hW₁⟩) with ⟨v, vm₁, ⟨U', l2, c2, s2⟩, hW₁, X', ⟨g', mk, t, L, e1, e2, hq, h1, hL, h2, h3⟩, st⟩ | ⟨q, vm₁, ⟨U', l2, c2, s2⟩, hW₁, X', ⟨g', mk, t, L, E, ce, e1, e2, hq, hce, hcv, hcl, h1, hL, h2, h3⟩, st⟩
  · dsimp only [Pt.U, Pt.locs, Pt.cells, Pt.slots] at X' e1 e2 h1 h2 h3 st
    subst h1; subst h2; subst h3
    exact Or.inl ⟨v, (T.setVm vm₁).calling g' mk As.toArray, t, U', L, hT, X', hL, e1, e2, hq, st⟩
  · dsimp only [Pt.U, Pt.locs, Pt.cells, Pt.slots] at X' e1 e2 h1 h2 h3 st hcl
    subst h1; subst h2; subst h3
    exact Or.inr ⟨q, (T.setVm vm₁).calling g' mk As.toArray, t, U', L, E, ce, hT, X', hL, e1, e2, hq, hce, hcv, vx_cls hW₁ hcl, st⟩
end
end VXH
theorem vx_ofWH {l : Launch} {y : MethodName} {ws ws' : List Cond} {rm : Room} {Pc : Array Value → State → Prop} {Qc : Array Value → State → Outcome → State → Prop} {XC : String → State → State → Prop} {mc ms : Nat} {free : Addr → Prop} {cc : ByteArray} {maxL : Nat} {ret : Option FieldType} {hh : List (Nat × Nat × Nat × Nat)}
    (hy : plainName y.cls = true) (hw : ws = Cond.codeWith y cc maxL ret hh :: ws')
    (body : ∀ p e s m args below meth c s₁, BodyLoose p l y (headSpec ws rm) cc maxL ret e s m args below meth c s₁ → c.maxLocals = maxL → Pc args s →
      W p l e (headSpec ws rm).room s m args below meth c s.heap [] 0 0 (vx_MQ below Qc XC args s mc ms free) (entryFrame m args maxL)) : vx_Met l y ws rm Pc Qc XC mc ms free := by
  refine MetFree.of_bodyS (code := cc) (maxLocals := maxL) (ret := ret) hy ?_ ?_
  · intro args s m h hn
    obtain ⟨m9, meth, c, hn9, h1, h2, h3, h4, -, h5, h6, -⟩ := Cond.codeWith_spec (atoms_spec (ws := ws) h _ (by rw [hw]; exact List.mem_cons_self))
    cases hn.symm.trans hn9
    exact ⟨meth, c, h1, h2, h3, h4, h5, h6⟩
  · intro p e s m args below meth c s₁ B hml hP _
    have hh0 : s₁.heap = s.heap := by rw [B.state]; rfl
    obtain ⟨t, a1, o, b1, b2, b3⟩ := body p e s m args below meth c s₁ B hml hP s₁ hh0 (Stand.of_body B)
    exact ⟨t, o, a1, b1, b2, b3⟩
/-! ===== END ===== -/
end
section
def RX0 : String := "PipPortrait$Board"
def TX0 : u_T := fun k => match k with
  | 0 => ("PipPortrait$Board", "now", "LPipPortrait$State;", true)
  | 1 => ("PipPortrait$Board", "columns", "I", false)
  | 2 => ("PipPortrait$Board", "rows", "I", false)
  | 3 => ("PipPortrait$Board", "squares", "I", false)
  | 4 => ("PipPortrait$Board", "tiles", "I", false)
  | 5 => ("PipPortrait$Board", "low", "[I", true)
  | 6 => ("PipPortrait$Board", "high", "[I", true)
  | 7 => ("PipPortrait$Board", "shadeA", "[I", true)
  | 8 => ("PipPortrait$Board", "shadeB", "[I", true)
  | 9 => ("PipPortrait$Board", "placeOn", "[I", true)
  | 10 => ("PipPortrait$Board", "search", "LPipPortrait$Search;", true)
  | 11 => ("PipPortrait$Board", "left", "[I", true)
  | _ => ("PipPortrait$Board", "errors", "[I", true)
def tyX0 : Nat → FieldType := fun k => match k with
  | 0 => .object "PipPortrait$State"
  | 1 => .int
  | 2 => .int
  | 3 => .int
  | 4 => .int
  | 5 => .array .int
  | 6 => .array .int
  | 7 => .array .int
  | 8 => .array .int
  | 9 => .array .int
  | 10 => .object "PipPortrait$Search"
  | 11 => .array .int
  | _ => .array .int
abbrev wsX00 : List Cond := u_ws RX0 TX0 13
theorem nmX0 : ∀ a, a < 13 → ∀ b, b < 13 → a ≠ b → (TX0 a).2.1 ≠ (TX0 b).2.1 := by decide +kernel
theorem tyX0_ok : ∀ k, k < 13 → parseFieldDescriptor (TX0 k).2.2.1 = some (tyX0 k) := by decide +kernel
abbrev cX0_init : ByteArray := prog_2_method_1_code
def yX0_init : MethodName := ⟨RX0, "<init>", "()V"⟩
abbrev cX0_start : ByteArray := prog_2_method_2_code
def yX0_start : MethodName := ⟨RX0, "start", "(II)V"⟩
abbrev cX0_takeFrom : ByteArray := prog_2_method_3_code
def yX0_takeFrom : MethodName := ⟨RX0, "takeFrom", "(LPipPortrait$State;)V"⟩
abbrev cX0_measure : ByteArray := prog_2_method_4_code
def yX0_measure : MethodName := ⟨RX0, "measure", "()V"⟩
abbrev cX0_placeAtFirst : ByteArray := prog_2_method_5_code
def yX0_placeAtFirst : MethodName := ⟨RX0, "placeAtFirst", "(I)V"⟩
abbrev cX0_markPlaces : ByteArray := prog_2_method_6_code
def yX0_markPlaces : MethodName := ⟨RX0, "markPlaces", "()V"⟩
abbrev cX0_hasSquare : ByteArray := prog_2_method_7_code
def yX0_hasSquare : MethodName := ⟨RX0, "hasSquare", "(II)Z"⟩
abbrev cX0_squareAt : ByteArray := prog_2_method_8_code
def yX0_squareAt : MethodName := ⟨RX0, "squareAt", "(II)I"⟩
abbrev cX0_hasPlace : ByteArray := prog_2_method_9_code
def yX0_hasPlace : MethodName := ⟨RX0, "hasPlace", "(I)Z"⟩
abbrev cX0_hasTile : ByteArray := prog_2_method_10_code
def yX0_hasTile : MethodName := ⟨RX0, "hasTile", "(I)Z"⟩
abbrev cX0_isHeld : ByteArray := prog_2_method_11_code
def yX0_isHeld : MethodName := ⟨RX0, "isHeld", "(I)Z"⟩
abbrev cX0_isAlongRow : ByteArray := prog_2_method_12_code
def yX0_isAlongRow : MethodName := ⟨RX0, "isAlongRow", "(I)Z"⟩
abbrev cX0_placesAlongRows : ByteArray := prog_2_method_13_code
def yX0_placesAlongRows : MethodName := ⟨RX0, "placesAlongRows", "()I"⟩
abbrev cX0_marked : ByteArray := prog_2_method_14_code
def yX0_marked : MethodName := ⟨RX0, "marked", "([I)I"⟩
abbrev cX0_placeWith : ByteArray := prog_2_method_15_code
def yX0_placeWith : MethodName := ⟨RX0, "placeWith", "(I)I"⟩
abbrev cX0_pipsOn : ByteArray := prog_2_method_16_code
def yX0_pipsOn : MethodName := ⟨RX0, "pipsOn", "(I)I"⟩
abbrev cX0_shade : ByteArray := prog_2_method_17_code
def yX0_shade : MethodName := ⟨RX0, "shade", "(I)I"⟩
abbrev cX0_miss : ByteArray := prog_2_method_18_code
def yX0_miss : MethodName := ⟨RX0, "miss", "(II)I"⟩
abbrev cX0_both : ByteArray := prog_2_method_19_code
def yX0_both : MethodName := ⟨RX0, "both", "(IIII)I"⟩
abbrev cX0_leastOf : ByteArray := prog_2_method_20_code
def yX0_leastOf : MethodName := ⟨RX0, "leastOf", "(IIII)I"⟩
abbrev cX0_errorAt : ByteArray := prog_2_method_21_code
def yX0_errorAt : MethodName := ⟨RX0, "errorAt", "(I)I"⟩
abbrev cX0_errorLaid : ByteArray := prog_2_method_22_code
def yX0_errorLaid : MethodName := ⟨RX0, "errorLaid", "(II)I"⟩
abbrev cX0_leastWith : ByteArray := prog_2_method_23_code
def yX0_leastWith : MethodName := ⟨RX0, "leastWith", "(III)I"⟩
abbrev cX0_leastAt : ByteArray := prog_2_method_24_code
def yX0_leastAt : MethodName := ⟨RX0, "leastAt", "(II)I"⟩
abbrev cX0_errorOfAll : ByteArray := prog_2_method_25_code
def yX0_errorOfAll : MethodName := ⟨RX0, "errorOfAll", "()I"⟩
abbrev cX0_leastOfAll : ByteArray := prog_2_method_26_code
def yX0_leastOfAll : MethodName := ⟨RX0, "leastOfAll", "()I"⟩
abbrev cX0_placeOfRank : ByteArray := prog_2_method_27_code
def yX0_placeOfRank : MethodName := ⟨RX0, "placeOfRank", "(I)I"⟩
abbrev cX0_rankOf : ByteArray := prog_2_method_28_code
def yX0_rankOf : MethodName := ⟨RX0, "rankOf", "(I)I"⟩
abbrev cX0_bestPlaceFor : ByteArray := prog_2_method_29_code
def yX0_bestPlaceFor : MethodName := ⟨RX0, "bestPlaceFor", "(I)I"⟩
abbrev cX0_tryGrey : ByteArray := prog_2_method_30_code
def yX0_tryGrey : MethodName := ⟨RX0, "tryGrey", "(III)Z"⟩
abbrev cX0_fadeAll : ByteArray := prog_2_method_31_code
def yX0_fadeAll : MethodName := ⟨RX0, "fadeAll", "(II)V"⟩
abbrev cX0_tryHold : ByteArray := prog_2_method_32_code
def yX0_tryHold : MethodName := ⟨RX0, "tryHold", "(I)Z"⟩
abbrev cX0_turnGain : ByteArray := prog_2_method_33_code
def yX0_turnGain : MethodName := ⟨RX0, "turnGain", "(I)I"⟩
abbrev cX0_turnPlace : ByteArray := prog_2_method_34_code
def yX0_turnPlace : MethodName := ⟨RX0, "turnPlace", "(I)V"⟩
abbrev cX0_tryTurn : ByteArray := prog_2_method_35_code
def yX0_tryTurn : MethodName := ⟨RX0, "tryTurn", "(I)Z"⟩
abbrev cX0_swapGain : ByteArray := prog_2_method_36_code
def yX0_swapGain : MethodName := ⟨RX0, "swapGain", "(II)I"⟩
abbrev cX0_swapPlaces : ByteArray := prog_2_method_37_code
def yX0_swapPlaces : MethodName := ⟨RX0, "swapPlaces", "(II)V"⟩
abbrev cX0_trySwap : ByteArray := prog_2_method_38_code
def yX0_trySwap : MethodName := ⟨RX0, "trySwap", "(II)Z"⟩
abbrev cX0_layBetterWay : ByteArray := prog_2_method_39_code
def yX0_layBetterWay : MethodName := ⟨RX0, "layBetterWay", "(I)V"⟩
abbrev cX0_partner : ByteArray := prog_2_method_40_code
def yX0_partner : MethodName := ⟨RX0, "partner", "(I)I"⟩
abbrev cX0_blocks : ByteArray := prog_2_method_41_code
def yX0_blocks : MethodName := ⟨RX0, "blocks", "()I"⟩
abbrev cX0_blockAt : ByteArray := prog_2_method_42_code
def yX0_blockAt : MethodName := ⟨RX0, "blockAt", "(I)I"⟩
abbrev cX0_isFreeBlock : ByteArray := prog_2_method_43_code
def yX0_isFreeBlock : MethodName := ⟨RX0, "isFreeBlock", "(I)Z"⟩
abbrev cX0_flipGain : ByteArray := prog_2_method_44_code
def yX0_flipGain : MethodName := ⟨RX0, "flipGain", "(II)I"⟩
abbrev cX0_flipBlock : ByteArray := prog_2_method_45_code
def yX0_flipBlock : MethodName := ⟨RX0, "flipBlock", "(I)V"⟩
abbrev cX0_tryFlip : ByteArray := prog_2_method_46_code
def yX0_tryFlip : MethodName := ⟨RX0, "tryFlip", "(II)Z"⟩
abbrev cX0_numberAnew : ByteArray := prog_2_method_47_code
def yX0_numberAnew : MethodName := ⟨RX0, "numberAnew", "(I)V"⟩
abbrev cX0_exchangePlaces : ByteArray := prog_2_method_48_code
def yX0_exchangePlaces : MethodName := ⟨RX0, "exchangePlaces", "(II)V"⟩
abbrev cX0_layAnew : ByteArray := prog_2_method_49_code
def yX0_layAnew : MethodName := ⟨RX0, "layAnew", "()V"⟩
abbrev cX0_layBestTile : ByteArray := prog_2_method_50_code
def yX0_layBestTile : MethodName := ⟨RX0, "layBestTile", "(I)V"⟩
abbrev cX0_isPossible : ByteArray := prog_2_method_51_code
def yX0_isPossible : MethodName := ⟨RX0, "isPossible", "(I)Z"⟩
abbrev cX0_gainOf : ByteArray := prog_2_method_52_code
def yX0_gainOf : MethodName := ⟨RX0, "gainOf", "(I)I"⟩
abbrev cX0_doBestChanges : ByteArray := prog_2_method_53_code
def yX0_doBestChanges : MethodName := ⟨RX0, "doBestChanges", "(I)V"⟩
def RX1 : String := "PipPortrait$Commands"
def TX1 : u_T := fun k => match k with
  | _ => ("", "", "", false)
def tyX1 : Nat → FieldType := fun k => match k with
  | _ => .int
abbrev wsX10 : List Cond := u_ws RX1 TX1 0
theorem nmX1 : ∀ a, a < 0 → ∀ b, b < 0 → a ≠ b → (TX1 a).2.1 ≠ (TX1 b).2.1 := by decide +kernel
theorem tyX1_ok : ∀ k, k < 0 → parseFieldDescriptor (TX1 k).2.2.1 = some (tyX1 k) := by decide +kernel
abbrev cX1_doInText : ByteArray := prog_3_method_2_code
def yX1_doInText : MethodName := ⟨RX1, "doInText", "(LPipPortrait$Board;LPipPortrait$Text;I)Z"⟩
abbrev cX1_doGroup : ByteArray := prog_3_method_3_code
def yX1_doGroup : MethodName := ⟨RX1, "doGroup", "(LPipPortrait$Board;I)Z"⟩
abbrev cX1_doTurn : ByteArray := prog_3_method_4_code
def yX1_doTurn : MethodName := ⟨RX1, "doTurn", "(LPipPortrait$Board;I)V"⟩
def RX2 : String := "PipPortrait$Memory"
def TX2 : u_T := fun k => match k with
  | 0 => ("PipPortrait$Memory", "states", "[LPipPortrait$State;", true)
  | 1 => ("PipPortrait$Memory", "oldest", "I", false)
  | _ => ("PipPortrait$Memory", "kept", "I", false)
def tyX2 : Nat → FieldType := fun k => match k with
  | 0 => .array (.object "PipPortrait$State")
  | 1 => .int
  | _ => .int
abbrev wsX20 : List Cond := u_ws RX2 TX2 3
theorem nmX2 : ∀ a, a < 3 → ∀ b, b < 3 → a ≠ b → (TX2 a).2.1 ≠ (TX2 b).2.1 := by decide +kernel
theorem tyX2_ok : ∀ k, k < 3 → parseFieldDescriptor (TX2 k).2.2.1 = some (tyX2 k) := by decide +kernel
abbrev cX2_init : ByteArray := prog_4_method_1_code
def yX2_init : MethodName := ⟨RX2, "<init>", "()V"⟩
abbrev cX2_isEmpty : ByteArray := prog_4_method_2_code
def yX2_isEmpty : MethodName := ⟨RX2, "isEmpty", "()Z"⟩
abbrev cX2_forget : ByteArray := prog_4_method_3_code
def yX2_forget : MethodName := ⟨RX2, "forget", "()V"⟩
abbrev cX2_remember : ByteArray := prog_4_method_4_code
def yX2_remember : MethodName := ⟨RX2, "remember", "(LPipPortrait$State;)V"⟩
abbrev cX2_takeLast : ByteArray := prog_4_method_5_code
def yX2_takeLast : MethodName := ⟨RX2, "takeLast", "()LPipPortrait$State;"⟩
abbrev cX2_stateAt : ByteArray := prog_4_method_6_code
def yX2_stateAt : MethodName := ⟨RX2, "stateAt", "(I)LPipPortrait$State;"⟩
def RX3 : String := "PipPortrait$Search"
def TX3 : u_T := fun k => match k with
  | 0 => ("PipPortrait$Search", "change", "I", false)
  | 1 => ("PipPortrait$Search", "gained", "I", false)
  | 2 => ("PipPortrait$Search", "held", "[I", true)
  | 3 => ("PipPortrait$Search", "grey1", "[I", true)
  | 4 => ("PipPortrait$Search", "grey2", "[I", true)
  | 5 => ("PipPortrait$Search", "shade1", "[I", true)
  | 6 => ("PipPortrait$Search", "shade2", "[I", true)
  | _ => ("PipPortrait$Search", "errors", "[I", true)
def tyX3 : Nat → FieldType := fun k => match k with
  | 0 => .int
  | 1 => .int
  | 2 => .array .int
  | 3 => .array .int
  | 4 => .array .int
  | 5 => .array .int
  | 6 => .array .int
  | _ => .array .int
abbrev wsX30 : List Cond := u_ws RX3 TX3 8
theorem nmX3 : ∀ a, a < 8 → ∀ b, b < 8 → a ≠ b → (TX3 a).2.1 ≠ (TX3 b).2.1 := by decide +kernel
theorem tyX3_ok : ∀ k, k < 8 → parseFieldDescriptor (TX3 k).2.2.1 = some (tyX3 k) := by decide +kernel
abbrev cX3_init : ByteArray := prog_5_method_1_code
def yX3_init : MethodName := ⟨RX3, "<init>", "()V"⟩
abbrev cX3_findIn : ByteArray := prog_5_method_2_code
def yX3_findIn : MethodName := ⟨RX3, "findIn", "(LPipPortrait$Board;)V"⟩
abbrev cX3_fillRows : ByteArray := prog_5_method_3_code
def yX3_fillRows : MethodName := ⟨RX3, "fillRows", "(LPipPortrait$Board;)V"⟩
abbrev cX3_offerSwapsOf : ByteArray := prog_5_method_4_code
def yX3_offerSwapsOf : MethodName := ⟨RX3, "offerSwapsOf", "(II)V"⟩
abbrev cX3_offer : ByteArray := prog_5_method_5_code
def yX3_offer : MethodName := ⟨RX3, "offer", "(II)V"⟩
def RX4 : String := "PipPortrait$Slots"
def TX4 : u_T := fun k => match k with
  | 0 => ("PipPortrait$Slots", "states", "[LPipPortrait$State;", true)
  | _ => ("PipPortrait$Slots", "filled", "[Z", true)
def tyX4 : Nat → FieldType := fun k => match k with
  | 0 => .array (.object "PipPortrait$State")
  | _ => .array .boolean
abbrev wsX40 : List Cond := u_ws RX4 TX4 2
theorem nmX4 : ∀ a, a < 2 → ∀ b, b < 2 → a ≠ b → (TX4 a).2.1 ≠ (TX4 b).2.1 := by decide +kernel
theorem tyX4_ok : ∀ k, k < 2 → parseFieldDescriptor (TX4 k).2.2.1 = some (tyX4 k) := by decide +kernel
abbrev cX4_init : ByteArray := prog_6_method_1_code
def yX4_init : MethodName := ⟨RX4, "<init>", "()V"⟩
abbrev cX4_clear : ByteArray := prog_6_method_2_code
def yX4_clear : MethodName := ⟨RX4, "clear", "()V"⟩
abbrev cX4_isFilled : ByteArray := prog_6_method_3_code
def yX4_isFilled : MethodName := ⟨RX4, "isFilled", "(I)Z"⟩
abbrev cX4_keep : ByteArray := prog_6_method_4_code
def yX4_keep : MethodName := ⟨RX4, "keep", "(ILPipPortrait$State;)V"⟩
abbrev cX4_in : ByteArray := prog_6_method_5_code
def yX4_in : MethodName := ⟨RX4, "in", "(I)LPipPortrait$State;"⟩
def RX5 : String := "PipPortrait$State"
def TX5 : u_T := fun k => match k with
  | 0 => ("PipPortrait$State", "n", "I", false)
  | 1 => ("PipPortrait$State", "sets", "I", false)
  | 2 => ("PipPortrait$State", "changes", "I", false)
  | 3 => ("PipPortrait$State", "greys", "[I", true)
  | 4 => ("PipPortrait$State", "first", "[I", true)
  | 5 => ("PipPortrait$State", "other", "[I", true)
  | 6 => ("PipPortrait$State", "laid", "[I", true)
  | 7 => ("PipPortrait$State", "turned", "[I", true)
  | _ => ("PipPortrait$State", "held", "[I", true)
def tyX5 : Nat → FieldType := fun k => match k with
  | 0 => .int
  | 1 => .int
  | 2 => .int
  | 3 => .array .int
  | 4 => .array .int
  | 5 => .array .int
  | 6 => .array .int
  | 7 => .array .int
  | _ => .array .int
abbrev wsX50 : List Cond := u_ws RX5 TX5 9
theorem nmX5 : ∀ a, a < 9 → ∀ b, b < 9 → a ≠ b → (TX5 a).2.1 ≠ (TX5 b).2.1 := by decide +kernel
theorem tyX5_ok : ∀ k, k < 9 → parseFieldDescriptor (TX5 k).2.2.1 = some (tyX5 k) := by decide +kernel
abbrev cX5_init : ByteArray := prog_7_method_1_code
def yX5_init : MethodName := ⟨RX5, "<init>", "()V"⟩
abbrev cX5_copy : ByteArray := prog_7_method_2_code
def yX5_copy : MethodName := ⟨RX5, "copy", "(LPipPortrait$State;LPipPortrait$State;)V"⟩
def RX6 : String := "PipPortrait$Text"
def TX6 : u_T := fun k => match k with
  | 0 => ("PipPortrait$Text", "signs", "[C", true)
  | _ => ("PipPortrait$Text", "length", "I", false)
def tyX6 : Nat → FieldType := fun k => match k with
  | 0 => .array .char
  | _ => .int
abbrev wsX60 : List Cond := u_ws RX6 TX6 2
theorem nmX6 : ∀ a, a < 2 → ∀ b, b < 2 → a ≠ b → (TX6 a).2.1 ≠ (TX6 b).2.1 := by decide +kernel
theorem tyX6_ok : ∀ k, k < 2 → parseFieldDescriptor (TX6 k).2.2.1 = some (tyX6 k) := by decide +kernel
abbrev cX6_init : ByteArray := prog_8_method_1_code
def yX6_init : MethodName := ⟨RX6, "<init>", "()V"⟩
abbrev cX6_isFull : ByteArray := prog_8_method_2_code
def yX6_isFull : MethodName := ⟨RX6, "isFull", "()Z"⟩
abbrev cX6_add : ByteArray := prog_8_method_3_code
def yX6_add : MethodName := ⟨RX6, "add", "(I)V"⟩
abbrev cX6_signAt : ByteArray := prog_8_method_4_code
def yX6_signAt : MethodName := ⟨RX6, "signAt", "(I)I"⟩
abbrev cX6_digitAt : ByteArray := prog_8_method_5_code
def yX6_digitAt : MethodName := ⟨RX6, "digitAt", "(I)I"⟩
abbrev cX6_twoDigitsAt : ByteArray := prog_8_method_6_code
def yX6_twoDigitsAt : MethodName := ⟨RX6, "twoDigitsAt", "(I)I"⟩
abbrev cX6_firstError : ByteArray := prog_8_method_7_code
def yX6_firstError : MethodName := ⟨RX6, "firstError", "()I"⟩
abbrev cX6_firstWrong : ByteArray := prog_8_method_8_code
def yX6_firstWrong : MethodName := ⟨RX6, "firstWrong", "(Ljava/lang/String;I)I"⟩
abbrev cX6_formOf : ByteArray := prog_8_method_9_code
def yX6_formOf : MethodName := ⟨RX6, "formOf", "(I)Ljava/lang/String;"⟩
abbrev cX6_suits : ByteArray := prog_8_method_10_code
def yX6_suits : MethodName := ⟨RX6, "suits", "(III)Z"⟩
def RX7 : String := "PipPortrait"
def TX7 : u_T := fun k => match k with
  | 0 => ("PipPortrait", "board", "LPipPortrait$Board;", true)
  | 1 => ("PipPortrait", "trial", "LPipPortrait$Board;", true)
  | 2 => ("PipPortrait", "memory", "LPipPortrait$Memory;", true)
  | 3 => ("PipPortrait", "slots", "LPipPortrait$Slots;", true)
  | _ => ("PipPortrait", "text", "LPipPortrait$Text;", true)
def tyX7 : Nat → FieldType := fun k => match k with
  | 0 => .object "PipPortrait$Board"
  | 1 => .object "PipPortrait$Board"
  | 2 => .object "PipPortrait$Memory"
  | 3 => .object "PipPortrait$Slots"
  | _ => .object "PipPortrait$Text"
abbrev wsX70 : List Cond := u_ws RX7 TX7 5
theorem nmX7 : ∀ a, a < 5 → ∀ b, b < 5 → a ≠ b → (TX7 a).2.1 ≠ (TX7 b).2.1 := by decide +kernel
theorem tyX7_ok : ∀ k, k < 5 → parseFieldDescriptor (TX7 k).2.2.1 = some (tyX7 k) := by decide +kernel
abbrev cX7_init : ByteArray := prog_1_method_1_code
def yX7_init : MethodName := ⟨RX7, "<init>", "()V"⟩
abbrev cX7_append : ByteArray := prog_1_method_2_code
def yX7_append : MethodName := ⟨RX7, "append", "(I)I"⟩
abbrev cX7_clearText : ByteArray := prog_1_method_3_code
def yX7_clearText : MethodName := ⟨RX7, "clearText", "()I"⟩
abbrev cX7_errorPosition : ByteArray := prog_1_method_4_code
def yX7_errorPosition : MethodName := ⟨RX7, "errorPosition", "()I"⟩
abbrev cX7_load : ByteArray := prog_1_method_5_code
def yX7_load : MethodName := ⟨RX7, "load", "()I"⟩
abbrev cX7_about : ByteArray := prog_1_method_6_code
def yX7_about : MethodName := ⟨RX7, "about", "(I)I"⟩
abbrev cX7_square : ByteArray := prog_1_method_7_code
def yX7_square : MethodName := ⟨RX7, "square", "(III)I"⟩
abbrev cX7_place : ByteArray := prog_1_method_8_code
def yX7_place : MethodName := ⟨RX7, "place", "(II)I"⟩
abbrev cX7_tile : ByteArray := prog_1_method_9_code
def yX7_tile : MethodName := ⟨RX7, "tile", "(II)I"⟩
abbrev cX7_begin : ByteArray := prog_1_method_10_code
def yX7_begin : MethodName := ⟨RX7, "begin", "(II)I"⟩
abbrev cX7_grey : ByteArray := prog_1_method_11_code
def yX7_grey : MethodName := ⟨RX7, "grey", "(III)I"⟩
abbrev cX7_fade : ByteArray := prog_1_method_12_code
def yX7_fade : MethodName := ⟨RX7, "fade", "(II)I"⟩
abbrev cX7_turn : ByteArray := prog_1_method_13_code
def yX7_turn : MethodName := ⟨RX7, "turn", "(I)I"⟩
abbrev cX7_swap : ByteArray := prog_1_method_14_code
def yX7_swap : MethodName := ⟨RX7, "swap", "(II)I"⟩
abbrev cX7_flip : ByteArray := prog_1_method_15_code
def yX7_flip : MethodName := ⟨RX7, "flip", "(II)I"⟩
abbrev cX7_hold : ByteArray := prog_1_method_16_code
def yX7_hold : MethodName := ⟨RX7, "hold", "(IZ)I"⟩
abbrev cX7_lay : ByteArray := prog_1_method_17_code
def yX7_lay : MethodName := ⟨RX7, "lay", "()I"⟩
abbrev cX7_improve : ByteArray := prog_1_method_18_code
def yX7_improve : MethodName := ⟨RX7, "improve", "(I)I"⟩
abbrev cX7_undo : ByteArray := prog_1_method_19_code
def yX7_undo : MethodName := ⟨RX7, "undo", "()I"⟩
abbrev cX7_gain : ByteArray := prog_1_method_20_code
def yX7_gain : MethodName := ⟨RX7, "gain", "(I)I"⟩
abbrev cX7_best : ByteArray := prog_1_method_21_code
def yX7_best : MethodName := ⟨RX7, "best", "(I)I"⟩
abbrev cX7_ifImproved : ByteArray := prog_1_method_22_code
def yX7_ifImproved : MethodName := ⟨RX7, "ifImproved", "(II)I"⟩
abbrev cX7_least : ByteArray := prog_1_method_23_code
def yX7_least : MethodName := ⟨RX7, "least", "()I"⟩
abbrev cX7_worst : ByteArray := prog_1_method_24_code
def yX7_worst : MethodName := ⟨RX7, "worst", "(I)I"⟩
abbrev cX7_fits : ByteArray := prog_1_method_25_code
def yX7_fits : MethodName := ⟨RX7, "fits", "(I)I"⟩
abbrev cX7_runScript : ByteArray := prog_1_method_26_code
def yX7_runScript : MethodName := ⟨RX7, "runScript", "(IJ)I"⟩
abbrev cX7_simulate : ByteArray := prog_1_method_27_code
def yX7_simulate : MethodName := ⟨RX7, "simulate", "(JI)I"⟩
abbrev cX7_save : ByteArray := prog_1_method_28_code
def yX7_save : MethodName := ⟨RX7, "save", "(I)I"⟩
abbrev cX7_restore : ByteArray := prog_1_method_29_code
def yX7_restore : MethodName := ⟨RX7, "restore", "(I)I"⟩
abbrev cX7_isGrey : ByteArray := prog_1_method_30_code
def yX7_isGrey : MethodName := ⟨RX7, "isGrey", "(I)Z"⟩
abbrev cX7_isCountOfChanges : ByteArray := prog_1_method_31_code
def yX7_isCountOfChanges : MethodName := ⟨RX7, "isCountOfChanges", "(I)Z"⟩
abbrev cX7_behindGroups : ByteArray := prog_1_method_32_code
def yX7_behindGroups : MethodName := ⟨RX7, "behindGroups", "(I)J"⟩
abbrev cX7_at : ByteArray := prog_1_method_33_code
def yX7_at : MethodName := ⟨RX7, "at", "([II)I"⟩
abbrev cX7_put : ByteArray := prog_1_method_34_code
def yX7_put : MethodName := ⟨RX7, "put", "([III)V"⟩
abbrev cX7_exchange : ByteArray := prog_1_method_35_code
def yX7_exchange : MethodName := ⟨RX7, "exchange", "([III)V"⟩
def RX8 : String := "PipPortraitModel"
def TX8 : u_T := fun k => match k with
  | 0 => ("PipPortraitModel", "refusal", "I", false)
  | 1 => ("PipPortraitModel", "text", "[I", true)
  | 2 => ("PipPortraitModel", "size", "I", false)
  | 3 => ("PipPortraitModel", "now", "[I", true)
  | 4 => ("PipPortraitModel", "trial", "[I", true)
  | 5 => ("PipPortraitModel", "diary", "[I", true)
  | 6 => ("PipPortraitModel", "acts", "I", false)
  | 7 => ("PipPortraitModel", "kept", "[I", true)
  | 8 => ("PipPortraitModel", "isKept", "[Z", true)
  | 9 => ("PipPortraitModel", "left", "[Z", true)
  | 10 => ("PipPortraitModel", "found", "I", false)
  | 11 => ("PipPortraitModel", "foundGain", "I", false)
  | 12 => ("PipPortraitModel", "improved", "I", false)
  | 13 => ("PipPortraitModel", "spot", "I", false)
  | _ => ("PipPortraitModel", "out", "I", false)
def tyX8 : Nat → FieldType := fun k => match k with
  | 0 => .int
  | 1 => .array .int
  | 2 => .int
  | 3 => .array .int
  | 4 => .array .int
  | 5 => .array .int
  | 6 => .int
  | 7 => .array .int
  | 8 => .array .boolean
  | 9 => .array .boolean
  | 10 => .int
  | 11 => .int
  | 12 => .int
  | 13 => .int
  | _ => .int
abbrev wsX80 : List Cond := u_ws RX8 TX8 15
theorem nmX8 : ∀ a, a < 15 → ∀ b, b < 15 → a ≠ b → (TX8 a).2.1 ≠ (TX8 b).2.1 := by decide +kernel
theorem tyX8_ok : ∀ k, k < 15 → parseFieldDescriptor (TX8 k).2.2.1 = some (tyX8 k) := by decide +kernel
abbrev cX8_init : ByteArray := prog_10_method_1_code
def yX8_init : MethodName := ⟨RX8, "<init>", "()V"⟩
abbrev cX8_thrown : ByteArray := prog_10_method_2_code
def yX8_thrown : MethodName := ⟨RX8, "thrown", "()I"⟩
abbrev cX8_refused : ByteArray := prog_10_method_3_code
def yX8_refused : MethodName := ⟨RX8, "refused", "(I)Z"⟩
abbrev cX8_in : ByteArray := prog_10_method_4_code
def yX8_in : MethodName := ⟨RX8, "in", "(JJJ)Z"⟩
abbrev cX8_copyState : ByteArray := prog_10_method_5_code
def yX8_copyState : MethodName := ⟨RX8, "copyState", "([II[II)V"⟩
abbrev cX8_wide : ByteArray := prog_10_method_6_code
def yX8_wide : MethodName := ⟨RX8, "wide", "([I)I"⟩
abbrev cX8_high : ByteArray := prog_10_method_7_code
def yX8_high : MethodName := ⟨RX8, "high", "([I)I"⟩
abbrev cX8_squares : ByteArray := prog_10_method_8_code
def yX8_squares : MethodName := ⟨RX8, "squares", "([I)I"⟩
abbrev cX8_tiles : ByteArray := prog_10_method_9_code
def yX8_tiles : MethodName := ⟨RX8, "tiles", "([I)I"⟩
abbrev cX8_isSquare : ByteArray := prog_10_method_10_code
def yX8_isSquare : MethodName := ⟨RX8, "isSquare", "([III)Z"⟩
abbrev cX8_isPlace : ByteArray := prog_10_method_11_code
def yX8_isPlace : MethodName := ⟨RX8, "isPlace", "([II)Z"⟩
abbrev cX8_start : ByteArray := prog_10_method_12_code
def yX8_start : MethodName := ⟨RX8, "start", "([III)V"⟩
abbrev cX8_lowPips : ByteArray := prog_10_method_13_code
def yX8_lowPips : MethodName := ⟨RX8, "lowPips", "([II)I"⟩
abbrev cX8_highPips : ByteArray := prog_10_method_14_code
def yX8_highPips : MethodName := ⟨RX8, "highPips", "([II)I"⟩
abbrev cX8_half : ByteArray := prog_10_method_15_code
def yX8_half : MethodName := ⟨RX8, "half", "([II)I"⟩
abbrev cX8_errorOf : ByteArray := prog_10_method_16_code
def yX8_errorOf : MethodName := ⟨RX8, "errorOf", "([III)I"⟩
abbrev cX8_errorOn : ByteArray := prog_10_method_17_code
def yX8_errorOn : MethodName := ⟨RX8, "errorOn", "([IIIII)I"⟩
abbrev cX8_bestWay : ByteArray := prog_10_method_18_code
def yX8_bestWay : MethodName := ⟨RX8, "bestWay", "([IIII)I"⟩
abbrev cX8_bestError : ByteArray := prog_10_method_19_code
def yX8_bestError : MethodName := ⟨RX8, "bestError", "([IIII)I"⟩
abbrev cX8_otherOf : ByteArray := prog_10_method_20_code
def yX8_otherOf : MethodName := ⟨RX8, "otherOf", "([II)I"⟩
abbrev cX8_firstOf : ByteArray := prog_10_method_21_code
def yX8_firstOf : MethodName := ⟨RX8, "firstOf", "([II)I"⟩
abbrev cX8_beginning : ByteArray := prog_10_method_22_code
def yX8_beginning : MethodName := ⟨RX8, "beginning", "([II)I"⟩
abbrev cX8_placeOf : ByteArray := prog_10_method_23_code
def yX8_placeOf : MethodName := ⟨RX8, "placeOf", "([II)I"⟩
abbrev cX8_placeError : ByteArray := prog_10_method_24_code
def yX8_placeError : MethodName := ⟨RX8, "placeError", "([II)I"⟩
abbrev cX8_wholeError : ByteArray := prog_10_method_25_code
def yX8_wholeError : MethodName := ⟨RX8, "wholeError", "([I)I"⟩
abbrev cX8_pipsOn : ByteArray := prog_10_method_26_code
def yX8_pipsOn : MethodName := ⟨RX8, "pipsOn", "([II)I"⟩
abbrev cX8_partner : ByteArray := prog_10_method_27_code
def yX8_partner : MethodName := ⟨RX8, "partner", "([II)I"⟩
abbrev cX8_gainOfTurn : ByteArray := prog_10_method_28_code
def yX8_gainOfTurn : MethodName := ⟨RX8, "gainOfTurn", "([II)I"⟩
abbrev cX8_gainOfSwap : ByteArray := prog_10_method_29_code
def yX8_gainOfSwap : MethodName := ⟨RX8, "gainOfSwap", "([III)I"⟩
abbrev cX8_gainOfFlip : ByteArray := prog_10_method_30_code
def yX8_gainOfFlip : MethodName := ⟨RX8, "gainOfFlip", "([II)I"⟩
abbrev cX8_turnOn : ByteArray := prog_10_method_31_code
def yX8_turnOn : MethodName := ⟨RX8, "turnOn", "([II)I"⟩
abbrev cX8_layTile : ByteArray := prog_10_method_32_code
def yX8_layTile : MethodName := ⟨RX8, "layTile", "([III)V"⟩
abbrev cX8_swapOn : ByteArray := prog_10_method_33_code
def yX8_swapOn : MethodName := ⟨RX8, "swapOn", "([III)I"⟩
abbrev cX8_flipOn : ByteArray := prog_10_method_34_code
def yX8_flipOn : MethodName := ⟨RX8, "flipOn", "([II)I"⟩
abbrev cX8_isFlip : ByteArray := prog_10_method_35_code
def yX8_isFlip : MethodName := ⟨RX8, "isFlip", "([II)Z"⟩
abbrev cX8_offer : ByteArray := prog_10_method_36_code
def yX8_offer : MethodName := ⟨RX8, "offer", "(II)V"⟩
abbrev cX8_find : ByteArray := prog_10_method_37_code
def yX8_find : MethodName := ⟨RX8, "find", "([I)V"⟩
abbrev cX8_findSwaps : ByteArray := prog_10_method_38_code
def yX8_findSwaps : MethodName := ⟨RX8, "findSwaps", "([III)V"⟩
abbrev cX8_change : ByteArray := prog_10_method_39_code
def yX8_change : MethodName := ⟨RX8, "change", "([II)V"⟩
abbrev cX8_improveOn : ByteArray := prog_10_method_40_code
def yX8_improveOn : MethodName := ⟨RX8, "improveOn", "([II)I"⟩
abbrev cX8_layAll : ByteArray := prog_10_method_41_code
def yX8_layAll : MethodName := ⟨RX8, "layAll", "([I)I"⟩
abbrev cX8_fadeOn : ByteArray := prog_10_method_42_code
def yX8_fadeOn : MethodName := ⟨RX8, "fadeOn", "([III)V"⟩
abbrev cX8_greyOn : ByteArray := prog_10_method_43_code
def yX8_greyOn : MethodName := ⟨RX8, "greyOn", "([IIII)I"⟩
abbrev cX8_heldMany : ByteArray := prog_10_method_44_code
def yX8_heldMany : MethodName := ⟨RX8, "heldMany", "([I)I"⟩
abbrev cX8_holdOn : ByteArray := prog_10_method_45_code
def yX8_holdOn : MethodName := ⟨RX8, "holdOn", "([IIZ)I"⟩
abbrev cX8_canTurn : ByteArray := prog_10_method_46_code
def yX8_canTurn : MethodName := ⟨RX8, "canTurn", "([II)Z"⟩
abbrev cX8_canSwap : ByteArray := prog_10_method_47_code
def yX8_canSwap : MethodName := ⟨RX8, "canSwap", "([III)Z"⟩
abbrev cX8_canFlip : ByteArray := prog_10_method_48_code
def yX8_canFlip : MethodName := ⟨RX8, "canFlip", "([III)Z"⟩
abbrev cX8_append : ByteArray := prog_10_method_49_code
def yX8_append : MethodName := ⟨RX8, "append", "(I)I"⟩
abbrev cX8_clearText : ByteArray := prog_10_method_50_code
def yX8_clearText : MethodName := ⟨RX8, "clearText", "()I"⟩
abbrev cX8_figures : ByteArray := prog_10_method_51_code
def yX8_figures : MethodName := ⟨RX8, "figures", "(IIII)I"⟩
abbrev cX8_done : ByteArray := prog_10_method_52_code
def yX8_done : MethodName := ⟨RX8, "done", "(Z)Z"⟩
abbrev cX8_faded : ByteArray := prog_10_method_53_code
def yX8_faded : MethodName := ⟨RX8, "faded", "([III)Z"⟩
abbrev cX8_turnedOne : ByteArray := prog_10_method_54_code
def yX8_turnedOne : MethodName := ⟨RX8, "turnedOne", "([II)Z"⟩
abbrev cX8_swapped : ByteArray := prog_10_method_55_code
def yX8_swapped : MethodName := ⟨RX8, "swapped", "([III)Z"⟩
abbrev cX8_flipped : ByteArray := prog_10_method_56_code
def yX8_flipped : MethodName := ⟨RX8, "flipped", "([III)Z"⟩
abbrev cX8_laidAnew : ByteArray := prog_10_method_57_code
def yX8_laidAnew : MethodName := ⟨RX8, "laidAnew", "([I)Z"⟩
abbrev cX8_readGrey : ByteArray := prog_10_method_58_code
def yX8_readGrey : MethodName := ⟨RX8, "readGrey", "([I)Z"⟩
abbrev cX8_readCommand : ByteArray := prog_10_method_59_code
def yX8_readCommand : MethodName := ⟨RX8, "readCommand", "([I)Z"⟩
abbrev cX8_readText : ByteArray := prog_10_method_60_code
def yX8_readText : MethodName := ⟨RX8, "readText", "([I)I"⟩
abbrev cX8_errorPosition : ByteArray := prog_10_method_61_code
def yX8_errorPosition : MethodName := ⟨RX8, "errorPosition", "()I"⟩
abbrev cX8_load : ByteArray := prog_10_method_62_code
def yX8_load : MethodName := ⟨RX8, "load", "()I"⟩
abbrev cX8_about : ByteArray := prog_10_method_63_code
def yX8_about : MethodName := ⟨RX8, "about", "(I)I"⟩
abbrev cX8_square : ByteArray := prog_10_method_64_code
def yX8_square : MethodName := ⟨RX8, "square", "(III)I"⟩
abbrev cX8_place : ByteArray := prog_10_method_65_code
def yX8_place : MethodName := ⟨RX8, "place", "(II)I"⟩
abbrev cX8_whereLies : ByteArray := prog_10_method_66_code
def yX8_whereLies : MethodName := ⟨RX8, "whereLies", "([II)I"⟩
abbrev cX8_tile : ByteArray := prog_10_method_67_code
def yX8_tile : MethodName := ⟨RX8, "tile", "(II)I"⟩
abbrev cX8_remember : ByteArray := prog_10_method_68_code
def yX8_remember : MethodName := ⟨RX8, "remember", "()V"⟩
abbrev cX8_begin : ByteArray := prog_10_method_69_code
def yX8_begin : MethodName := ⟨RX8, "begin", "(II)I"⟩
abbrev cX8_grey : ByteArray := prog_10_method_70_code
def yX8_grey : MethodName := ⟨RX8, "grey", "(III)I"⟩
abbrev cX8_fade : ByteArray := prog_10_method_71_code
def yX8_fade : MethodName := ⟨RX8, "fade", "(II)I"⟩
abbrev cX8_turn : ByteArray := prog_10_method_72_code
def yX8_turn : MethodName := ⟨RX8, "turn", "(I)I"⟩
abbrev cX8_swap : ByteArray := prog_10_method_73_code
def yX8_swap : MethodName := ⟨RX8, "swap", "(II)I"⟩
abbrev cX8_flip : ByteArray := prog_10_method_74_code
def yX8_flip : MethodName := ⟨RX8, "flip", "(II)I"⟩
abbrev cX8_hold : ByteArray := prog_10_method_75_code
def yX8_hold : MethodName := ⟨RX8, "hold", "(IZ)I"⟩
abbrev cX8_lay : ByteArray := prog_10_method_76_code
def yX8_lay : MethodName := ⟨RX8, "lay", "()I"⟩
abbrev cX8_improve : ByteArray := prog_10_method_77_code
def yX8_improve : MethodName := ⟨RX8, "improve", "(I)I"⟩
abbrev cX8_undo : ByteArray := prog_10_method_78_code
def yX8_undo : MethodName := ⟨RX8, "undo", "()I"⟩
abbrev cX8_isChange : ByteArray := prog_10_method_79_code
def yX8_isChange : MethodName := ⟨RX8, "isChange", "([II)Z"⟩
abbrev cX8_gain : ByteArray := prog_10_method_80_code
def yX8_gain : MethodName := ⟨RX8, "gain", "(I)I"⟩
abbrev cX8_best : ByteArray := prog_10_method_81_code
def yX8_best : MethodName := ⟨RX8, "best", "(I)I"⟩
abbrev cX8_ifImproved : ByteArray := prog_10_method_82_code
def yX8_ifImproved : MethodName := ⟨RX8, "ifImproved", "(II)I"⟩
abbrev cX8_least : ByteArray := prog_10_method_83_code
def yX8_least : MethodName := ⟨RX8, "least", "()I"⟩
abbrev cX8_worst : ByteArray := prog_10_method_84_code
def yX8_worst : MethodName := ⟨RX8, "worst", "(I)I"⟩
abbrev cX8_fits : ByteArray := prog_10_method_85_code
def yX8_fits : MethodName := ⟨RX8, "fits", "(I)I"⟩
abbrev cX8_command : ByteArray := prog_10_method_86_code
def yX8_command : MethodName := ⟨RX8, "command", "(II)Z"⟩
abbrev cX8_runScript : ByteArray := prog_10_method_87_code
def yX8_runScript : MethodName := ⟨RX8, "runScript", "(IJ)I"⟩
abbrev cX8_turnBy : ByteArray := prog_10_method_88_code
def yX8_turnBy : MethodName := ⟨RX8, "turnBy", "(I)V"⟩
abbrev cX8_simulate : ByteArray := prog_10_method_89_code
def yX8_simulate : MethodName := ⟨RX8, "simulate", "(JI)I"⟩
abbrev cX8_save : ByteArray := prog_10_method_90_code
def yX8_save : MethodName := ⟨RX8, "save", "(I)I"⟩
abbrev cX8_restore : ByteArray := prog_10_method_91_code
def yX8_restore : MethodName := ⟨RX8, "restore", "(I)I"⟩
def RJx145de : String := "java/io/Serializable"
def TJx145de : u_T := fun k => match k with
  | _ => ("", "", "", false)
def tyJx145de : Nat → FieldType := fun k => match k with
  | _ => .int
def RJx9f9b0 : String := "java/lang/CharSequence"
def TJx9f9b0 : u_T := fun k => match k with
  | _ => ("", "", "", false)
def tyJx9f9b0 : Nat → FieldType := fun k => match k with
  | _ => .int
def RJxb160c : String := "java/lang/Comparable"
def TJxb160c : u_T := fun k => match k with
  | _ => ("", "", "", false)
def tyJxb160c : Nat → FieldType := fun k => match k with
  | _ => .int
def RJ9 : String := "java/lang/Math"
def TJ9 : u_T := fun k => match k with
  | _ => ("", "", "", false)
def tyJ9 : Nat → FieldType := fun k => match k with
  | _ => .int
abbrev cJ9_max_7cf53 : ByteArray := prog_15_method_65_code
def yJ9_max_7cf53 : MethodName := ⟨RJ9, "max", "(II)I"⟩
abbrev cJ9_min_7cf53 : ByteArray := prog_15_method_69_code
def yJ9_min_7cf53 : MethodName := ⟨RJ9, "min", "(II)I"⟩
def RJ0 : String := "java/lang/String"
def TJ0 : u_T := fun k => match k with
  | _ => ("", "", "", false)
def tyJ0 : Nat → FieldType := fun k => match k with
  | _ => .int
abbrev cJ0_length_8abf5 : ByteArray := prog_17_method_54_code
def yJ0_length_8abf5 : MethodName := ⟨RJ0, "length", "()I"⟩
abbrev cJ0_isEmpty_aae02 : ByteArray := prog_17_method_55_code
def yJ0_isEmpty_aae02 : MethodName := ⟨RJ0, "isEmpty", "()Z"⟩
abbrev cJ0_charAt_5068e : ByteArray := prog_17_method_56_code
def yJ0_charAt_5068e : MethodName := ⟨RJ0, "charAt", "(I)C"⟩
abbrev cJ0_coder_7d493 : ByteArray := prog_17_method_152_code
def yJ0_coder_7d493 : MethodName := ⟨RJ0, "coder", "()B"⟩
abbrev cJ0_isLatin1_aae02 : ByteArray := prog_17_method_154_code
def yJ0_isLatin1_aae02 : MethodName := ⟨RJ0, "isLatin1", "()Z"⟩
abbrev cJ0_checkIndex_df160 : ByteArray := prog_17_method_155_code
def yJ0_checkIndex_df160 : MethodName := ⟨RJ0, "checkIndex", "(II)V"⟩
def RJ1 : String := "java/lang/StringLatin1"
def TJ1 : u_T := fun k => match k with
  | _ => ("", "", "", false)
def tyJ1 : Nat → FieldType := fun k => match k with
  | _ => .int
abbrev cJ1_charAt_3b067 : ByteArray := prog_18_method_2_code
def yJ1_charAt_3b067 : MethodName := ⟨RJ1, "charAt", "([BI)C"⟩
def RJ2 : String := "java/lang/StringUTF16"
def TJ2 : u_T := fun k => match k with
  | _ => ("", "", "", false)
def tyJ2 : Nat → FieldType := fun k => match k with
  | _ => .int
abbrev cJ2_getChar_3b067 : ByteArray := prog_19_method_5_code
def yJ2_getChar_3b067 : MethodName := ⟨RJ2, "getChar", "([BI)C"⟩
abbrev cJ2_length_9d52b : ByteArray := prog_19_method_6_code
def yJ2_length_9d52b : MethodName := ⟨RJ2, "length", "([B)I"⟩
abbrev cJ2_charAt_3b067 : ByteArray := prog_19_method_83_code
def yJ2_charAt_3b067 : MethodName := ⟨RJ2, "charAt", "([BI)C"⟩
abbrev cJ2_checkIndex_2214a : ByteArray := prog_19_method_91_code
def yJ2_checkIndex_2214a : MethodName := ⟨RJ2, "checkIndex", "(I[B)V"⟩
def RJ10 : String := "java/lang/System"
def TJ10 : u_T := fun k => match k with
  | _ => ("", "", "", false)
def tyJ10 : Nat → FieldType := fun k => match k with
  | _ => .int
def RJxfd54e : String := "java/lang/constant/Constable"
def TJxfd54e : u_T := fun k => match k with
  | _ => ("", "", "", false)
def tyJxfd54e : Nat → FieldType := fun k => match k with
  | _ => .int
def RJx3cf43 : String := "java/lang/constant/ConstantDesc"
def TJx3cf43 : u_T := fun k => match k with
  | _ => ("", "", "", false)
def tyJx3cf43 : Nat → FieldType := fun k => match k with
  | _ => .int
def RJ7 : String := "java/util/Arrays"
def TJ7 : u_T := fun k => match k with
  | _ => ("", "", "", false)
def tyJ7 : Nat → FieldType := fun k => match k with
  | _ => .int
abbrev cJ7_fill_53178 : ByteArray := prog_22_method_103_code
def yJ7_fill_53178 : MethodName := ⟨RJ7, "fill", "([II)V"⟩
def RJ3 : String := "jdk/internal/util/Preconditions"
def TJ3 : u_T := fun k => match k with
  | _ => ("", "", "", false)
def tyJ3 : Nat → FieldType := fun k => match k with
  | _ => .int
abbrev cJ3_checkIndex_8e157 : ByteArray := prog_23_method_11_code
def yJ3_checkIndex_8e157 : MethodName := ⟨RJ3, "checkIndex", "(IILjava/util/function/BiFunction;)I"⟩
def RL : String := "PipPortraitLaw"
abbrev cL_append : ByteArray := method_3_code
def yL_append : MethodName := ⟨RL, "append", "(LPipPortrait;I[J)I"⟩
abbrev cL_load : ByteArray := method_4_code
def yL_load : MethodName := ⟨RL, "load", "(LPipPortrait;[J)I"⟩
abbrev cL_about : ByteArray := method_5_code
def yL_about : MethodName := ⟨RL, "about", "(LPipPortrait;I[J)I"⟩
abbrev cL_square : ByteArray := method_6_code
def yL_square : MethodName := ⟨RL, "square", "(LPipPortrait;III[J)I"⟩
abbrev cL_place : ByteArray := method_7_code
def yL_place : MethodName := ⟨RL, "place", "(LPipPortrait;II[J)I"⟩
abbrev cL_tile : ByteArray := method_8_code
def yL_tile : MethodName := ⟨RL, "tile", "(LPipPortrait;II[J)I"⟩
abbrev cL_begin : ByteArray := method_9_code
def yL_begin : MethodName := ⟨RL, "begin", "(LPipPortrait;II[J)I"⟩
abbrev cL_grey : ByteArray := method_10_code
def yL_grey : MethodName := ⟨RL, "grey", "(LPipPortrait;III[J)I"⟩
abbrev cL_fade : ByteArray := method_11_code
def yL_fade : MethodName := ⟨RL, "fade", "(LPipPortrait;II[J)I"⟩
abbrev cL_turn : ByteArray := method_12_code
def yL_turn : MethodName := ⟨RL, "turn", "(LPipPortrait;I[J)I"⟩
abbrev cL_swap : ByteArray := method_13_code
def yL_swap : MethodName := ⟨RL, "swap", "(LPipPortrait;II[J)I"⟩
abbrev cL_flip : ByteArray := method_14_code
def yL_flip : MethodName := ⟨RL, "flip", "(LPipPortrait;II[J)I"⟩
abbrev cL_hold : ByteArray := method_15_code
def yL_hold : MethodName := ⟨RL, "hold", "(LPipPortrait;IZ[J)I"⟩
abbrev cL_improve : ByteArray := method_16_code
def yL_improve : MethodName := ⟨RL, "improve", "(LPipPortrait;I[J)I"⟩
abbrev cL_undo : ByteArray := method_17_code
def yL_undo : MethodName := ⟨RL, "undo", "(LPipPortrait;[J)I"⟩
abbrev cL_gain : ByteArray := method_18_code
def yL_gain : MethodName := ⟨RL, "gain", "(LPipPortrait;I[J)I"⟩
abbrev cL_best : ByteArray := method_19_code
def yL_best : MethodName := ⟨RL, "best", "(LPipPortrait;I[J)I"⟩
abbrev cL_ifImproved : ByteArray := method_20_code
def yL_ifImproved : MethodName := ⟨RL, "ifImproved", "(LPipPortrait;II[J)I"⟩
abbrev cL_worst : ByteArray := method_21_code
def yL_worst : MethodName := ⟨RL, "worst", "(LPipPortrait;I[J)I"⟩
abbrev cL_fits : ByteArray := method_22_code
def yL_fits : MethodName := ⟨RL, "fits", "(LPipPortrait;I[J)I"⟩
abbrev cL_runScript : ByteArray := method_23_code
def yL_runScript : MethodName := ⟨RL, "runScript", "(LPipPortrait;IJ[J)I"⟩
abbrev cL_simulate : ByteArray := method_24_code
def yL_simulate : MethodName := ⟨RL, "simulate", "(LPipPortrait;JI[J)I"⟩
abbrev cL_save : ByteArray := method_25_code
def yL_save : MethodName := ⟨RL, "save", "(LPipPortrait;I[J)I"⟩
abbrev cL_restore : ByteArray := method_26_code
def yL_restore : MethodName := ⟨RL, "restore", "(LPipPortrait;I[J)I"⟩
abbrev cL_law : ByteArray := code
def yL_law : MethodName := ⟨RL, "law", "([I)Z"⟩
abbrev vwCl : List vw_C := [(RX0, TX0, 13), (RX2, TX2, 3), (RX3, TX3, 8), (RX4, TX4, 2), (RX5, TX5, 9), (RX6, TX6, 2), (RX7, TX7, 5), (RX8, TX8, 15)]
abbrev MI : Type := MethodName × ByteArray × Nat × Option FieldType
abbrev mC (q : MI) : ByteArray := q.2.1
abbrev mL (q : MI) : Nat := q.2.2.1
abbrev mR (q : MI) : Option FieldType := q.2.2.2
def dec (q : MI) (pc : Nat) := decode (mC q) pc
def mX0_init : MI := (yX0_init, cX0_init, 1, none)
def mX0_start : MI := (yX0_start, cX0_start, 4, none)
def mX0_takeFrom : MI := (yX0_takeFrom, cX0_takeFrom, 2, none)
def mX0_measure : MI := (yX0_measure, cX0_measure, 5, none)
def mX0_placeAtFirst : MI := (yX0_placeAtFirst, cX0_placeAtFirst, 3, none)
def mX0_markPlaces : MI := (yX0_markPlaces, cX0_markPlaces, 2, none)
def mX0_hasSquare : MI := (yX0_hasSquare, cX0_hasSquare, 3, (some .boolean))
def mX0_squareAt : MI := (yX0_squareAt, cX0_squareAt, 3, (some .int))
def mX0_hasPlace : MI := (yX0_hasPlace, cX0_hasPlace, 2, (some .boolean))
def mX0_hasTile : MI := (yX0_hasTile, cX0_hasTile, 2, (some .boolean))
def mX0_isHeld : MI := (yX0_isHeld, cX0_isHeld, 2, (some .boolean))
def mX0_isAlongRow : MI := (yX0_isAlongRow, cX0_isAlongRow, 2, (some .boolean))
def mX0_placesAlongRows : MI := (yX0_placesAlongRows, cX0_placesAlongRows, 3, (some .int))
def mX0_marked : MI := (yX0_marked, cX0_marked, 4, (some .int))
def mX0_placeWith : MI := (yX0_placeWith, cX0_placeWith, 3, (some .int))
def mX0_pipsOn : MI := (yX0_pipsOn, cX0_pipsOn, 6, (some .int))
def mX0_shade : MI := (yX0_shade, cX0_shade, 2, (some .int))
def mX0_miss : MI := (yX0_miss, cX0_miss, 2, (some .int))
def mX0_both : MI := (yX0_both, cX0_both, 4, (some .int))
def mX0_leastOf : MI := (yX0_leastOf, cX0_leastOf, 6, (some .int))
def mX0_errorAt : MI := (yX0_errorAt, cX0_errorAt, 2, (some .int))
def mX0_errorLaid : MI := (yX0_errorLaid, cX0_errorLaid, 8, (some .int))
def mX0_leastWith : MI := (yX0_leastWith, cX0_leastWith, 4, (some .int))
def mX0_leastAt : MI := (yX0_leastAt, cX0_leastAt, 3, (some .int))
def mX0_errorOfAll : MI := (yX0_errorOfAll, cX0_errorOfAll, 3, (some .int))
def mX0_leastOfAll : MI := (yX0_leastOfAll, cX0_leastOfAll, 6, (some .int))
def mX0_placeOfRank : MI := (yX0_placeOfRank, cX0_placeOfRank, 3, (some .int))
def mX0_rankOf : MI := (yX0_rankOf, cX0_rankOf, 6, (some .int))
def mX0_bestPlaceFor : MI := (yX0_bestPlaceFor, cX0_bestPlaceFor, 6, (some .int))
def mX0_tryGrey : MI := (yX0_tryGrey, cX0_tryGrey, 4, (some .boolean))
def mX0_fadeAll : MI := (yX0_fadeAll, cX0_fadeAll, 6, none)
def mX0_tryHold : MI := (yX0_tryHold, cX0_tryHold, 2, (some .boolean))
def mX0_turnGain : MI := (yX0_turnGain, cX0_turnGain, 3, (some .int))
def mX0_turnPlace : MI := (yX0_turnPlace, cX0_turnPlace, 2, none)
def mX0_tryTurn : MI := (yX0_tryTurn, cX0_tryTurn, 2, (some .boolean))
def mX0_swapGain : MI := (yX0_swapGain, cX0_swapGain, 3, (some .int))
def mX0_swapPlaces : MI := (yX0_swapPlaces, cX0_swapPlaces, 3, none)
def mX0_trySwap : MI := (yX0_trySwap, cX0_trySwap, 3, (some .boolean))
def mX0_layBetterWay : MI := (yX0_layBetterWay, cX0_layBetterWay, 2, none)
def mX0_partner : MI := (yX0_partner, cX0_partner, 6, (some .int))
def mX0_blocks : MI := (yX0_blocks, cX0_blocks, 3, (some .int))
def mX0_blockAt : MI := (yX0_blockAt, cX0_blockAt, 3, (some .int))
def mX0_isFreeBlock : MI := (yX0_isFreeBlock, cX0_isFreeBlock, 3, (some .boolean))
def mX0_flipGain : MI := (yX0_flipGain, cX0_flipGain, 7, (some .int))
def mX0_flipBlock : MI := (yX0_flipBlock, cX0_flipBlock, 7, none)
def mX0_tryFlip : MI := (yX0_tryFlip, cX0_tryFlip, 4, (some .boolean))
def mX0_numberAnew : MI := (yX0_numberAnew, cX0_numberAnew, 4, none)
def mX0_exchangePlaces : MI := (yX0_exchangePlaces, cX0_exchangePlaces, 3, none)
def mX0_layAnew : MI := (yX0_layAnew, cX0_layAnew, 2, none)
def mX0_layBestTile : MI := (yX0_layBestTile, cX0_layBestTile, 8, none)
def mX0_isPossible : MI := (yX0_isPossible, cX0_isPossible, 3, (some .boolean))
def mX0_gainOf : MI := (yX0_gainOf, cX0_gainOf, 4, (some .int))
def mX0_doBestChanges : MI := (yX0_doBestChanges, cX0_doBestChanges, 4, none)
def mX1_doInText : MI := (yX1_doInText, cX1_doInText, 7, (some .boolean))
def mX1_doGroup : MI := (yX1_doGroup, cX1_doGroup, 8, (some .boolean))
def mX1_doTurn : MI := (yX1_doTurn, cX1_doTurn, 3, none)
def mX2_init : MI := (yX2_init, cX2_init, 2, none)
def mX2_isEmpty : MI := (yX2_isEmpty, cX2_isEmpty, 1, (some .boolean))
def mX2_forget : MI := (yX2_forget, cX2_forget, 1, none)
def mX2_remember : MI := (yX2_remember, cX2_remember, 2, none)
def mX2_takeLast : MI := (yX2_takeLast, cX2_takeLast, 1, (some (.object "PipPortrait$State")))
def mX2_stateAt : MI := (yX2_stateAt, cX2_stateAt, 2, (some (.object "PipPortrait$State")))
def mX3_init : MI := (yX3_init, cX3_init, 1, none)
def mX3_findIn : MI := (yX3_findIn, cX3_findIn, 4, none)
def mX3_fillRows : MI := (yX3_fillRows, cX3_fillRows, 5, none)
def mX3_offerSwapsOf : MI := (yX3_offerSwapsOf, cX3_offerSwapsOf, 11, none)
def mX3_offer : MI := (yX3_offer, cX3_offer, 3, none)
def mX4_init : MI := (yX4_init, cX4_init, 2, none)
def mX4_clear : MI := (yX4_clear, cX4_clear, 2, none)
def mX4_isFilled : MI := (yX4_isFilled, cX4_isFilled, 2, (some .boolean))
def mX4_keep : MI := (yX4_keep, cX4_keep, 3, none)
def mX4_in : MI := (yX4_in, cX4_in, 2, (some (.object "PipPortrait$State")))
def mX5_init : MI := (yX5_init, cX5_init, 1, none)
def mX5_copy : MI := (yX5_copy, cX5_copy, 2, none)
def mX6_init : MI := (yX6_init, cX6_init, 1, none)
def mX6_isFull : MI := (yX6_isFull, cX6_isFull, 1, (some .boolean))
def mX6_add : MI := (yX6_add, cX6_add, 2, none)
def mX6_signAt : MI := (yX6_signAt, cX6_signAt, 2, (some .int))
def mX6_digitAt : MI := (yX6_digitAt, cX6_digitAt, 2, (some .int))
def mX6_twoDigitsAt : MI := (yX6_twoDigitsAt, cX6_twoDigitsAt, 2, (some .int))
def mX6_firstError : MI := (yX6_firstError, cX6_firstError, 5, (some .int))
def mX6_firstWrong : MI := (yX6_firstWrong, cX6_firstWrong, 4, (some .int))
def mX6_formOf : MI := (yX6_formOf, cX6_formOf, 1, (some (.object "java/lang/String")))
def mX6_suits : MI := (yX6_suits, cX6_suits, 3, (some .boolean))
def mX7_init : MI := (yX7_init, cX7_init, 1, none)
def mX7_append : MI := (yX7_append, cX7_append, 2, (some .int))
def mX7_clearText : MI := (yX7_clearText, cX7_clearText, 2, (some .int))
def mX7_errorPosition : MI := (yX7_errorPosition, cX7_errorPosition, 1, (some .int))
def mX7_load : MI := (yX7_load, cX7_load, 4, (some .int))
def mX7_about : MI := (yX7_about, cX7_about, 2, (some .int))
def mX7_square : MI := (yX7_square, cX7_square, 5, (some .int))
def mX7_place : MI := (yX7_place, cX7_place, 3, (some .int))
def mX7_tile : MI := (yX7_tile, cX7_tile, 3, (some .int))
def mX7_begin : MI := (yX7_begin, cX7_begin, 3, (some .int))
def mX7_grey : MI := (yX7_grey, cX7_grey, 6, (some .int))
def mX7_fade : MI := (yX7_fade, cX7_fade, 3, (some .int))
def mX7_turn : MI := (yX7_turn, cX7_turn, 3, (some .int))
def mX7_swap : MI := (yX7_swap, cX7_swap, 4, (some .int))
def mX7_flip : MI := (yX7_flip, cX7_flip, 5, (some .int))
def mX7_hold : MI := (yX7_hold, cX7_hold, 3, (some .int))
def mX7_lay : MI := (yX7_lay, cX7_lay, 2, (some .int))
def mX7_improve : MI := (yX7_improve, cX7_improve, 3, (some .int))
def mX7_undo : MI := (yX7_undo, cX7_undo, 1, (some .int))
def mX7_gain : MI := (yX7_gain, cX7_gain, 2, (some .int))
def mX7_best : MI := (yX7_best, cX7_best, 2, (some .int))
def mX7_ifImproved : MI := (yX7_ifImproved, cX7_ifImproved, 3, (some .int))
def mX7_least : MI := (yX7_least, cX7_least, 1, (some .int))
def mX7_worst : MI := (yX7_worst, cX7_worst, 2, (some .int))
def mX7_fits : MI := (yX7_fits, cX7_fits, 2, (some .int))
def mX7_runScript : MI := (yX7_runScript, cX7_runScript, 9, (some .int))
def mX7_simulate : MI := (yX7_simulate, cX7_simulate, 7, (some .int))
def mX7_save : MI := (yX7_save, cX7_save, 2, (some .int))
def mX7_restore : MI := (yX7_restore, cX7_restore, 2, (some .int))
def mX7_isGrey : MI := (yX7_isGrey, cX7_isGrey, 1, (some .boolean))
def mX7_isCountOfChanges : MI := (yX7_isCountOfChanges, cX7_isCountOfChanges, 1, (some .boolean))
def mX7_behindGroups : MI := (yX7_behindGroups, cX7_behindGroups, 4, (some .long))
def mX7_at : MI := (yX7_at, cX7_at, 2, (some .int))
def mX7_put : MI := (yX7_put, cX7_put, 3, none)
def mX7_exchange : MI := (yX7_exchange, cX7_exchange, 4, none)
def mX8_init : MI := (yX8_init, cX8_init, 1, none)
def mX8_thrown : MI := (yX8_thrown, cX8_thrown, 1, (some .int))
def mX8_refused : MI := (yX8_refused, cX8_refused, 2, (some .boolean))
def mX8_in : MI := (yX8_in, cX8_in, 6, (some .boolean))
def mX8_copyState : MI := (yX8_copyState, cX8_copyState, 5, none)
def mX8_wide : MI := (yX8_wide, cX8_wide, 1, (some .int))
def mX8_high : MI := (yX8_high, cX8_high, 1, (some .int))
def mX8_squares : MI := (yX8_squares, cX8_squares, 1, (some .int))
def mX8_tiles : MI := (yX8_tiles, cX8_tiles, 1, (some .int))
def mX8_isSquare : MI := (yX8_isSquare, cX8_isSquare, 3, (some .boolean))
def mX8_isPlace : MI := (yX8_isPlace, cX8_isPlace, 2, (some .boolean))
def mX8_start : MI := (yX8_start, cX8_start, 7, none)
def mX8_lowPips : MI := (yX8_lowPips, cX8_lowPips, 5, (some .int))
def mX8_highPips : MI := (yX8_highPips, cX8_highPips, 5, (some .int))
def mX8_half : MI := (yX8_half, cX8_half, 2, (some .int))
def mX8_errorOf : MI := (yX8_errorOf, cX8_errorOf, 4, (some .int))
def mX8_errorOn : MI := (yX8_errorOn, cX8_errorOn, 7, (some .int))
def mX8_bestWay : MI := (yX8_bestWay, cX8_bestWay, 4, (some .int))
def mX8_bestError : MI := (yX8_bestError, cX8_bestError, 4, (some .int))
def mX8_otherOf : MI := (yX8_otherOf, cX8_otherOf, 2, (some .int))
def mX8_firstOf : MI := (yX8_firstOf, cX8_firstOf, 4, (some .int))
def mX8_beginning : MI := (yX8_beginning, cX8_beginning, 2, (some .int))
def mX8_placeOf : MI := (yX8_placeOf, cX8_placeOf, 5, (some .int))
def mX8_placeError : MI := (yX8_placeError, cX8_placeError, 2, (some .int))
def mX8_wholeError : MI := (yX8_wholeError, cX8_wholeError, 3, (some .int))
def mX8_pipsOn : MI := (yX8_pipsOn, cX8_pipsOn, 4, (some .int))
def mX8_partner : MI := (yX8_partner, cX8_partner, 4, (some .int))
def mX8_gainOfTurn : MI := (yX8_gainOfTurn, cX8_gainOfTurn, 2, (some .int))
def mX8_gainOfSwap : MI := (yX8_gainOfSwap, cX8_gainOfSwap, 4, (some .int))
def mX8_gainOfFlip : MI := (yX8_gainOfFlip, cX8_gainOfFlip, 8, (some .int))
def mX8_turnOn : MI := (yX8_turnOn, cX8_turnOn, 3, (some .int))
def mX8_layTile : MI := (yX8_layTile, cX8_layTile, 3, none)
def mX8_swapOn : MI := (yX8_swapOn, cX8_swapOn, 5, (some .int))
def mX8_flipOn : MI := (yX8_flipOn, cX8_flipOn, 9, (some .int))
def mX8_isFlip : MI := (yX8_isFlip, cX8_isFlip, 2, (some .boolean))
def mX8_offer : MI := (yX8_offer, cX8_offer, 3, none)
def mX8_find : MI := (yX8_find, cX8_find, 4, none)
def mX8_findSwaps : MI := (yX8_findSwaps, cX8_findSwaps, 6, none)
def mX8_change : MI := (yX8_change, cX8_change, 3, none)
def mX8_improveOn : MI := (yX8_improveOn, cX8_improveOn, 4, (some .int))
def mX8_layAll : MI := (yX8_layAll, cX8_layAll, 9, (some .int))
def mX8_fadeOn : MI := (yX8_fadeOn, cX8_fadeOn, 6, none)
def mX8_greyOn : MI := (yX8_greyOn, cX8_greyOn, 6, (some .int))
def mX8_heldMany : MI := (yX8_heldMany, cX8_heldMany, 3, (some .int))
def mX8_holdOn : MI := (yX8_holdOn, cX8_holdOn, 3, (some .int))
def mX8_canTurn : MI := (yX8_canTurn, cX8_canTurn, 2, (some .boolean))
def mX8_canSwap : MI := (yX8_canSwap, cX8_canSwap, 3, (some .boolean))
def mX8_canFlip : MI := (yX8_canFlip, cX8_canFlip, 3, (some .boolean))
def mX8_append : MI := (yX8_append, cX8_append, 2, (some .int))
def mX8_clearText : MI := (yX8_clearText, cX8_clearText, 2, (some .int))
def mX8_figures : MI := (yX8_figures, cX8_figures, 9, (some .int))
def mX8_done : MI := (yX8_done, cX8_done, 2, (some .boolean))
def mX8_faded : MI := (yX8_faded, cX8_faded, 4, (some .boolean))
def mX8_turnedOne : MI := (yX8_turnedOne, cX8_turnedOne, 4, (some .boolean))
def mX8_swapped : MI := (yX8_swapped, cX8_swapped, 5, (some .boolean))
def mX8_flipped : MI := (yX8_flipped, cX8_flipped, 5, (some .boolean))
def mX8_laidAnew : MI := (yX8_laidAnew, cX8_laidAnew, 2, (some .boolean))
def mX8_readGrey : MI := (yX8_readGrey, cX8_readGrey, 5, (some .boolean))
def mX8_readCommand : MI := (yX8_readCommand, cX8_readCommand, 5, (some .boolean))
def mX8_readText : MI := (yX8_readText, cX8_readText, 4, (some .int))
def mX8_errorPosition : MI := (yX8_errorPosition, cX8_errorPosition, 1, (some .int))
def mX8_load : MI := (yX8_load, cX8_load, 1, (some .int))
def mX8_about : MI := (yX8_about, cX8_about, 4, (some .int))
def mX8_square : MI := (yX8_square, cX8_square, 6, (some .int))
def mX8_place : MI := (yX8_place, cX8_place, 4, (some .int))
def mX8_whereLies : MI := (yX8_whereLies, cX8_whereLies, 4, (some .int))
def mX8_tile : MI := (yX8_tile, cX8_tile, 3, (some .int))
def mX8_remember : MI := (yX8_remember, cX8_remember, 2, none)
def mX8_begin : MI := (yX8_begin, cX8_begin, 3, (some .int))
def mX8_grey : MI := (yX8_grey, cX8_grey, 4, (some .int))
def mX8_fade : MI := (yX8_fade, cX8_fade, 3, (some .int))
def mX8_turn : MI := (yX8_turn, cX8_turn, 2, (some .int))
def mX8_swap : MI := (yX8_swap, cX8_swap, 3, (some .int))
def mX8_flip : MI := (yX8_flip, cX8_flip, 3, (some .int))
def mX8_hold : MI := (yX8_hold, cX8_hold, 3, (some .int))
def mX8_lay : MI := (yX8_lay, cX8_lay, 1, (some .int))
def mX8_improve : MI := (yX8_improve, cX8_improve, 2, (some .int))
def mX8_undo : MI := (yX8_undo, cX8_undo, 1, (some .int))
def mX8_isChange : MI := (yX8_isChange, cX8_isChange, 3, (some .boolean))
def mX8_gain : MI := (yX8_gain, cX8_gain, 3, (some .int))
def mX8_best : MI := (yX8_best, cX8_best, 2, (some .int))
def mX8_ifImproved : MI := (yX8_ifImproved, cX8_ifImproved, 4, (some .int))
def mX8_least : MI := (yX8_least, cX8_least, 5, (some .int))
def mX8_worst : MI := (yX8_worst, cX8_worst, 7, (some .int))
def mX8_fits : MI := (yX8_fits, cX8_fits, 8, (some .int))
def mX8_command : MI := (yX8_command, cX8_command, 10, (some .boolean))
def mX8_runScript : MI := (yX8_runScript, cX8_runScript, 8, (some .int))
def mX8_turnBy : MI := (yX8_turnBy, cX8_turnBy, 3, none)
def mX8_simulate : MI := (yX8_simulate, cX8_simulate, 7, (some .int))
def mX8_save : MI := (yX8_save, cX8_save, 2, (some .int))
def mX8_restore : MI := (yX8_restore, cX8_restore, 2, (some .int))
def mJ9_max_7cf53 : MI := (yJ9_max_7cf53, cJ9_max_7cf53, 2, (some .int))
def mJ9_min_7cf53 : MI := (yJ9_min_7cf53, cJ9_min_7cf53, 2, (some .int))
def mJ0_length_8abf5 : MI := (yJ0_length_8abf5, cJ0_length_8abf5, 1, (some .int))
def mJ0_isEmpty_aae02 : MI := (yJ0_isEmpty_aae02, cJ0_isEmpty_aae02, 1, (some .boolean))
def mJ0_charAt_5068e : MI := (yJ0_charAt_5068e, cJ0_charAt_5068e, 2, (some .char))
def mJ0_coder_7d493 : MI := (yJ0_coder_7d493, cJ0_coder_7d493, 1, (some .byte))
def mJ0_isLatin1_aae02 : MI := (yJ0_isLatin1_aae02, cJ0_isLatin1_aae02, 1, (some .boolean))
def mJ0_checkIndex_df160 : MI := (yJ0_checkIndex_df160, cJ0_checkIndex_df160, 2, none)
def mJ1_charAt_3b067 : MI := (yJ1_charAt_3b067, cJ1_charAt_3b067, 2, (some .char))
def mJ2_getChar_3b067 : MI := (yJ2_getChar_3b067, cJ2_getChar_3b067, 2, (some .char))
def mJ2_length_9d52b : MI := (yJ2_length_9d52b, cJ2_length_9d52b, 1, (some .int))
def mJ2_charAt_3b067 : MI := (yJ2_charAt_3b067, cJ2_charAt_3b067, 2, (some .char))
def mJ2_checkIndex_2214a : MI := (yJ2_checkIndex_2214a, cJ2_checkIndex_2214a, 2, none)
def mJ7_fill_53178 : MI := (yJ7_fill_53178, cJ7_fill_53178, 4, none)
def mJ3_checkIndex_8e157 : MI := (yJ3_checkIndex_8e157, cJ3_checkIndex_8e157, 3, (some .int))
def mL_append : MI := (yL_append, cL_append, 4, (some .int))
def mL_load : MI := (yL_load, cL_load, 3, (some .int))
def mL_about : MI := (yL_about, cL_about, 4, (some .int))
def mL_square : MI := (yL_square, cL_square, 6, (some .int))
def mL_place : MI := (yL_place, cL_place, 5, (some .int))
def mL_tile : MI := (yL_tile, cL_tile, 5, (some .int))
def mL_begin : MI := (yL_begin, cL_begin, 5, (some .int))
def mL_grey : MI := (yL_grey, cL_grey, 6, (some .int))
def mL_fade : MI := (yL_fade, cL_fade, 5, (some .int))
def mL_turn : MI := (yL_turn, cL_turn, 4, (some .int))
def mL_swap : MI := (yL_swap, cL_swap, 5, (some .int))
def mL_flip : MI := (yL_flip, cL_flip, 5, (some .int))
def mL_hold : MI := (yL_hold, cL_hold, 5, (some .int))
def mL_improve : MI := (yL_improve, cL_improve, 4, (some .int))
def mL_undo : MI := (yL_undo, cL_undo, 3, (some .int))
def mL_gain : MI := (yL_gain, cL_gain, 4, (some .int))
def mL_best : MI := (yL_best, cL_best, 4, (some .int))
def mL_ifImproved : MI := (yL_ifImproved, cL_ifImproved, 5, (some .int))
def mL_worst : MI := (yL_worst, cL_worst, 4, (some .int))
def mL_fits : MI := (yL_fits, cL_fits, 4, (some .int))
def mL_runScript : MI := (yL_runScript, cL_runScript, 6, (some .int))
def mL_simulate : MI := (yL_simulate, cL_simulate, 6, (some .int))
def mL_save : MI := (yL_save, cL_save, 4, (some .int))
def mL_restore : MI := (yL_restore, cL_restore, 4, (some .int))
def mL_law : MI := (x, code, maxLocals, ret)
def tblG : List Cond := lw_tbl.filter goodWord
theorem tG {w : Cond} (i : Nat) (h : lw_tbl[i]? = some w) (g : goodWord w = true) : w ∈ tblG := List.mem_filter.mpr ⟨List.mem_of_getElem? h, g⟩
end
section
theorem dX0_init_0 : dec mX0_init 0 = .ok (.aload_n 0, 1) := by decide +kernel
theorem dX0_init_1 : dec mX0_init 1 = .ok (.invokespecial 3, 3) := by decide +kernel
theorem dX0_init_4 : dec mX0_init 4 = .ok (.aload_n 0, 1) := by decide +kernel
theorem dX0_init_5 : dec mX0_init 5 = .ok (.new 9, 3) := by decide +kernel
theorem dX0_init_8 : dec mX0_init 8 = .ok (.dup, 1) := by decide +kernel
theorem dX0_init_9 : dec mX0_init 9 = .ok (.invokespecial 11, 3) := by decide +kernel
theorem dX0_init_12 : dec mX0_init 12 = .ok (.putfield 12, 3) := by decide +kernel
theorem dX0_init_15 : dec mX0_init 15 = .ok (.aload_n 0, 1) := by decide +kernel
theorem dX0_init_16 : dec mX0_init 16 = .ok (.bipush 56, 2) := by decide +kernel
theorem dX0_init_18 : dec mX0_init 18 = .ok (.newarray .int, 2) := by decide +kernel
theorem dX0_init_20 : dec mX0_init 20 = .ok (.putfield 18, 3) := by decide +kernel
theorem dX0_init_23 : dec mX0_init 23 = .ok (.aload_n 0, 1) := by decide +kernel
theorem dX0_init_24 : dec mX0_init 24 = .ok (.bipush 56, 2) := by decide +kernel
theorem dX0_init_26 : dec mX0_init 26 = .ok (.newarray .int, 2) := by decide +kernel
theorem dX0_init_28 : dec mX0_init 28 = .ok (.putfield 22, 3) := by decide +kernel
theorem dX0_init_31 : dec mX0_init 31 = .ok (.aload_n 0, 1) := by decide +kernel
theorem dX0_init_32 : dec mX0_init 32 = .ok (.bipush 56, 2) := by decide +kernel
theorem dX0_init_34 : dec mX0_init 34 = .ok (.newarray .int, 2) := by decide +kernel
theorem dX0_init_36 : dec mX0_init 36 = .ok (.putfield 25, 3) := by decide +kernel
theorem dX0_init_39 : dec mX0_init 39 = .ok (.aload_n 0, 1) := by decide +kernel
theorem dX0_init_40 : dec mX0_init 40 = .ok (.bipush 56, 2) := by decide +kernel
theorem dX0_init_42 : dec mX0_init 42 = .ok (.newarray .int, 2) := by decide +kernel
theorem dX0_init_44 : dec mX0_init 44 = .ok (.putfield 28, 3) := by decide +kernel
theorem dX0_init_47 : dec mX0_init 47 = .ok (.aload_n 0, 1) := by decide +kernel
theorem dX0_init_48 : dec mX0_init 48 = .ok (.bipush 112, 2) := by decide +kernel
theorem dX0_init_50 : dec mX0_init 50 = .ok (.newarray .int, 2) := by decide +kernel
theorem dX0_init_52 : dec mX0_init 52 = .ok (.putfield 31, 3) := by decide +kernel
theorem dX0_init_55 : dec mX0_init 55 = .ok (.aload_n 0, 1) := by decide +kernel
theorem dX0_init_56 : dec mX0_init 56 = .ok (.new 34, 3) := by decide +kernel
theorem dX0_init_59 : dec mX0_init 59 = .ok (.dup, 1) := by decide +kernel
theorem dX0_init_60 : dec mX0_init 60 = .ok (.invokespecial 36, 3) := by decide +kernel
theorem dX0_init_63 : dec mX0_init 63 = .ok (.putfield 37, 3) := by decide +kernel
theorem dX0_init_66 : dec mX0_init 66 = .ok (.aload_n 0, 1) := by decide +kernel
theorem dX0_init_67 : dec mX0_init 67 = .ok (.bipush 56, 2) := by decide +kernel
theorem dX0_init_69 : dec mX0_init 69 = .ok (.newarray .int, 2) := by decide +kernel
theorem dX0_init_71 : dec mX0_init 71 = .ok (.putfield 41, 3) := by decide +kernel
theorem dX0_init_74 : dec mX0_init 74 = .ok (.aload_n 0, 1) := by decide +kernel
theorem dX0_init_75 : dec mX0_init 75 = .ok (.bipush 56, 2) := by decide +kernel
theorem dX0_init_77 : dec mX0_init 77 = .ok (.newarray .int, 2) := by decide +kernel
theorem dX0_init_79 : dec mX0_init 79 = .ok (.putfield 44, 3) := by decide +kernel
theorem dX0_init_82 : dec mX0_init 82 = .ok (.return_, 1) := by decide +kernel
theorem dX0_start_0 : dec mX0_start 0 = .ok (.aload_n 0, 1) := by decide +kernel
theorem dX0_start_1 : dec mX0_start 1 = .ok (.getfield 12, 3) := by decide +kernel
theorem dX0_start_4 : dec mX0_start 4 = .ok (.iload_n 1, 1) := by decide +kernel
theorem dX0_start_5 : dec mX0_start 5 = .ok (.putfield 47, 3) := by decide +kernel
theorem dX0_start_8 : dec mX0_start 8 = .ok (.aload_n 0, 1) := by decide +kernel
theorem dX0_start_9 : dec mX0_start 9 = .ok (.getfield 12, 3) := by decide +kernel
theorem dX0_start_12 : dec mX0_start 12 = .ok (.iload_n 2, 1) := by decide +kernel
theorem dX0_start_13 : dec mX0_start 13 = .ok (.putfield 51, 3) := by decide +kernel
theorem dX0_start_16 : dec mX0_start 16 = .ok (.aload_n 0, 1) := by decide +kernel
theorem dX0_start_17 : dec mX0_start 17 = .ok (.getfield 12, 3) := by decide +kernel
theorem dX0_start_20 : dec mX0_start 20 = .ok (.iconst 0, 1) := by decide +kernel
theorem dX0_start_21 : dec mX0_start 21 = .ok (.putfield 54, 3) := by decide +kernel
theorem dX0_start_24 : dec mX0_start 24 = .ok (.aload_n 0, 1) := by decide +kernel
theorem dX0_start_25 : dec mX0_start 25 = .ok (.getfield 12, 3) := by decide +kernel
theorem dX0_start_28 : dec mX0_start 28 = .ok (.getfield 57, 3) := by decide +kernel
theorem dX0_start_31 : dec mX0_start 31 = .ok (.iconst 0, 1) := by decide +kernel
theorem dX0_start_32 : dec mX0_start 32 = .ok (.invokestatic 60, 3) := by decide +kernel
theorem dX0_start_35 : dec mX0_start 35 = .ok (.aload_n 0, 1) := by decide +kernel
theorem dX0_start_36 : dec mX0_start 36 = .ok (.getfield 12, 3) := by decide +kernel
theorem dX0_start_39 : dec mX0_start 39 = .ok (.getfield 66, 3) := by decide +kernel
theorem dX0_start_42 : dec mX0_start 42 = .ok (.iconst 0, 1) := by decide +kernel
theorem dX0_start_43 : dec mX0_start 43 = .ok (.invokestatic 60, 3) := by decide +kernel
theorem dX0_start_46 : dec mX0_start 46 = .ok (.aload_n 0, 1) := by decide +kernel
theorem dX0_start_47 : dec mX0_start 47 = .ok (.getfield 12, 3) := by decide +kernel
theorem dX0_start_50 : dec mX0_start 50 = .ok (.getfield 69, 3) := by decide +kernel
theorem dX0_start_53 : dec mX0_start 53 = .ok (.iconst 0, 1) := by decide +kernel
theorem dX0_start_54 : dec mX0_start 54 = .ok (.invokestatic 60, 3) := by decide +kernel
theorem dX0_start_57 : dec mX0_start 57 = .ok (.aload_n 0, 1) := by decide +kernel
theorem dX0_start_58 : dec mX0_start 58 = .ok (.invokevirtual 72, 3) := by decide +kernel
theorem dX0_start_61 : dec mX0_start 61 = .ok (.iconst 0, 1) := by decide +kernel
theorem dX0_start_62 : dec mX0_start 62 = .ok (.istore_n 3, 1) := by decide +kernel
theorem dX0_start_63 : dec mX0_start 63 = .ok (.iload_n 3, 1) := by decide +kernel
theorem dX0_start_64 : dec mX0_start 64 = .ok (.aload_n 0, 1) := by decide +kernel
theorem dX0_start_65 : dec mX0_start 65 = .ok (.getfield 75, 3) := by decide +kernel
theorem dX0_start_68 : dec mX0_start 68 = .ok (.if_icmp .ge 26, 3) := by decide +kernel
theorem dX0_start_71 : dec mX0_start 71 = .ok (.aload_n 0, 1) := by decide +kernel
theorem dX0_start_72 : dec mX0_start 72 = .ok (.iload_n 3, 1) := by decide +kernel
theorem dX0_start_73 : dec mX0_start 73 = .ok (.invokevirtual 78, 3) := by decide +kernel
theorem dX0_start_76 : dec mX0_start 76 = .ok (.aload_n 0, 1) := by decide +kernel
theorem dX0_start_77 : dec mX0_start 77 = .ok (.getfield 12, 3) := by decide +kernel
theorem dX0_start_80 : dec mX0_start 80 = .ok (.getfield 82, 3) := by decide +kernel
theorem dX0_start_83 : dec mX0_start 83 = .ok (.iload_n 3, 1) := by decide +kernel
theorem dX0_start_84 : dec mX0_start 84 = .ok (.iload_n 3, 1) := by decide +kernel
theorem dX0_start_85 : dec mX0_start 85 = .ok (.invokestatic 85, 3) := by decide +kernel
theorem dX0_start_88 : dec mX0_start 88 = .ok (.iinc 3 1, 3) := by decide +kernel
theorem dX0_start_91 : dec mX0_start 91 = .ok (.goto (-28), 3) := by decide +kernel
theorem dX0_start_94 : dec mX0_start 94 = .ok (.aload_n 0, 1) := by decide +kernel
theorem dX0_start_95 : dec mX0_start 95 = .ok (.invokevirtual 89, 3) := by decide +kernel
theorem dX0_start_98 : dec mX0_start 98 = .ok (.return_, 1) := by decide +kernel
theorem dX0_takeFrom_0 : dec mX0_takeFrom 0 = .ok (.aload_n 1, 1) := by decide +kernel
theorem dX0_takeFrom_1 : dec mX0_takeFrom 1 = .ok (.aload_n 0, 1) := by decide +kernel
theorem dX0_takeFrom_2 : dec mX0_takeFrom 2 = .ok (.getfield 12, 3) := by decide +kernel
theorem dX0_takeFrom_5 : dec mX0_takeFrom 5 = .ok (.invokestatic 92, 3) := by decide +kernel
theorem dX0_takeFrom_8 : dec mX0_takeFrom 8 = .ok (.aload_n 0, 1) := by decide +kernel
theorem dX0_takeFrom_9 : dec mX0_takeFrom 9 = .ok (.invokevirtual 72, 3) := by decide +kernel
theorem dX0_takeFrom_12 : dec mX0_takeFrom 12 = .ok (.aload_n 0, 1) := by decide +kernel
theorem dX0_takeFrom_13 : dec mX0_takeFrom 13 = .ok (.invokevirtual 89, 3) := by decide +kernel
theorem dX0_takeFrom_16 : dec mX0_takeFrom 16 = .ok (.return_, 1) := by decide +kernel
theorem dX0_measure_0 : dec mX0_measure 0 = .ok (.aload_n 0, 1) := by decide +kernel
theorem dX0_measure_1 : dec mX0_measure 1 = .ok (.aload_n 0, 1) := by decide +kernel
theorem dX0_measure_2 : dec mX0_measure 2 = .ok (.getfield 12, 3) := by decide +kernel
theorem dX0_measure_5 : dec mX0_measure 5 = .ok (.getfield 47, 3) := by decide +kernel
theorem dX0_measure_8 : dec mX0_measure 8 = .ok (.iconst 2, 1) := by decide +kernel
theorem dX0_measure_9 : dec mX0_measure 9 = .ok (.iadd, 1) := by decide +kernel
theorem dX0_measure_10 : dec mX0_measure 10 = .ok (.putfield 96, 3) := by decide +kernel
theorem dX0_measure_13 : dec mX0_measure 13 = .ok (.aload_n 0, 1) := by decide +kernel
theorem dX0_measure_14 : dec mX0_measure 14 = .ok (.aload_n 0, 1) := by decide +kernel
theorem dX0_measure_15 : dec mX0_measure 15 = .ok (.getfield 12, 3) := by decide +kernel
theorem dX0_measure_18 : dec mX0_measure 18 = .ok (.getfield 47, 3) := by decide +kernel
theorem dX0_measure_21 : dec mX0_measure 21 = .ok (.iconst 1, 1) := by decide +kernel
theorem dX0_measure_22 : dec mX0_measure 22 = .ok (.iadd, 1) := by decide +kernel
theorem dX0_measure_23 : dec mX0_measure 23 = .ok (.aload_n 0, 1) := by decide +kernel
theorem dX0_measure_24 : dec mX0_measure 24 = .ok (.getfield 12, 3) := by decide +kernel
theorem dX0_measure_27 : dec mX0_measure 27 = .ok (.getfield 51, 3) := by decide +kernel
theorem dX0_measure_30 : dec mX0_measure 30 = .ok (.imul, 1) := by decide +kernel
theorem dX0_measure_31 : dec mX0_measure 31 = .ok (.putfield 99, 3) := by decide +kernel
theorem dX0_measure_34 : dec mX0_measure 34 = .ok (.aload_n 0, 1) := by decide +kernel
theorem dX0_measure_35 : dec mX0_measure 35 = .ok (.aload_n 0, 1) := by decide +kernel
theorem dX0_measure_36 : dec mX0_measure 36 = .ok (.getfield 96, 3) := by decide +kernel
theorem dX0_measure_39 : dec mX0_measure 39 = .ok (.aload_n 0, 1) := by decide +kernel
theorem dX0_measure_40 : dec mX0_measure 40 = .ok (.getfield 99, 3) := by decide +kernel
theorem dX0_measure_43 : dec mX0_measure 43 = .ok (.imul, 1) := by decide +kernel
theorem dX0_measure_44 : dec mX0_measure 44 = .ok (.putfield 102, 3) := by decide +kernel
theorem dX0_measure_47 : dec mX0_measure 47 = .ok (.aload_n 0, 1) := by decide +kernel
theorem dX0_measure_48 : dec mX0_measure 48 = .ok (.aload_n 0, 1) := by decide +kernel
theorem dX0_measure_49 : dec mX0_measure 49 = .ok (.getfield 102, 3) := by decide +kernel
theorem dX0_measure_52 : dec mX0_measure 52 = .ok (.iconst 2, 1) := by decide +kernel
theorem dX0_measure_53 : dec mX0_measure 53 = .ok (.idiv, 1) := by decide +kernel
theorem dX0_measure_54 : dec mX0_measure 54 = .ok (.putfield 75, 3) := by decide +kernel
theorem dX0_measure_57 : dec mX0_measure 57 = .ok (.iconst 0, 1) := by decide +kernel
theorem dX0_measure_58 : dec mX0_measure 58 = .ok (.istore_n 1, 1) := by decide +kernel
theorem dX0_measure_59 : dec mX0_measure 59 = .ok (.iconst 0, 1) := by decide +kernel
theorem dX0_measure_60 : dec mX0_measure 60 = .ok (.istore_n 2, 1) := by decide +kernel
theorem dX0_measure_61 : dec mX0_measure 61 = .ok (.iload_n 2, 1) := by decide +kernel
theorem dX0_measure_62 : dec mX0_measure 62 = .ok (.aload_n 0, 1) := by decide +kernel
theorem dX0_measure_63 : dec mX0_measure 63 = .ok (.getfield 12, 3) := by decide +kernel
theorem dX0_measure_66 : dec mX0_measure 66 = .ok (.getfield 51, 3) := by decide +kernel
theorem dX0_measure_69 : dec mX0_measure 69 = .ok (.if_icmp .ge 98, 3) := by decide +kernel
theorem dX0_measure_72 : dec mX0_measure 72 = .ok (.iconst 0, 1) := by decide +kernel
theorem dX0_measure_73 : dec mX0_measure 73 = .ok (.istore_n 3, 1) := by decide +kernel
theorem dX0_measure_74 : dec mX0_measure 74 = .ok (.iload_n 3, 1) := by decide +kernel
theorem dX0_measure_75 : dec mX0_measure 75 = .ok (.aload_n 0, 1) := by decide +kernel
theorem dX0_measure_76 : dec mX0_measure 76 = .ok (.getfield 12, 3) := by decide +kernel
theorem dX0_measure_79 : dec mX0_measure 79 = .ok (.getfield 47, 3) := by decide +kernel
theorem dX0_measure_82 : dec mX0_measure 82 = .ok (.if_icmp .gt 79, 3) := by decide +kernel
theorem dX0_measure_85 : dec mX0_measure 85 = .ok (.iload_n 3, 1) := by decide +kernel
theorem dX0_measure_86 : dec mX0_measure 86 = .ok (.istore 4, 2) := by decide +kernel
theorem dX0_measure_88 : dec mX0_measure 88 = .ok (.iload 4, 2) := by decide +kernel
theorem dX0_measure_90 : dec mX0_measure 90 = .ok (.aload_n 0, 1) := by decide +kernel
theorem dX0_measure_91 : dec mX0_measure 91 = .ok (.getfield 12, 3) := by decide +kernel
theorem dX0_measure_94 : dec mX0_measure 94 = .ok (.getfield 47, 3) := by decide +kernel
theorem dX0_measure_97 : dec mX0_measure 97 = .ok (.if_icmp .gt 58, 3) := by decide +kernel
theorem dX0_measure_100 : dec mX0_measure 100 = .ok (.aload_n 0, 1) := by decide +kernel
theorem dX0_measure_101 : dec mX0_measure 101 = .ok (.getfield 18, 3) := by decide +kernel
theorem dX0_measure_104 : dec mX0_measure 104 = .ok (.iload_n 1, 1) := by decide +kernel
theorem dX0_measure_105 : dec mX0_measure 105 = .ok (.iload_n 3, 1) := by decide +kernel
theorem dX0_measure_106 : dec mX0_measure 106 = .ok (.invokestatic 85, 3) := by decide +kernel
theorem dX0_measure_109 : dec mX0_measure 109 = .ok (.aload_n 0, 1) := by decide +kernel
theorem dX0_measure_110 : dec mX0_measure 110 = .ok (.getfield 22, 3) := by decide +kernel
theorem dX0_measure_113 : dec mX0_measure 113 = .ok (.iload_n 1, 1) := by decide +kernel
theorem dX0_measure_114 : dec mX0_measure 114 = .ok (.iload 4, 2) := by decide +kernel
theorem dX0_measure_116 : dec mX0_measure 116 = .ok (.invokestatic 85, 3) := by decide +kernel
theorem dX0_measure_119 : dec mX0_measure 119 = .ok (.aload_n 0, 1) := by decide +kernel
theorem dX0_measure_120 : dec mX0_measure 120 = .ok (.getfield 25, 3) := by decide +kernel
theorem dX0_measure_123 : dec mX0_measure 123 = .ok (.iload_n 1, 1) := by decide +kernel
theorem dX0_measure_124 : dec mX0_measure 124 = .ok (.aload_n 0, 1) := by decide +kernel
theorem dX0_measure_125 : dec mX0_measure 125 = .ok (.iload_n 3, 1) := by decide +kernel
theorem dX0_measure_126 : dec mX0_measure 126 = .ok (.invokevirtual 105, 3) := by decide +kernel
theorem dX0_measure_129 : dec mX0_measure 129 = .ok (.invokestatic 85, 3) := by decide +kernel
theorem dX0_measure_132 : dec mX0_measure 132 = .ok (.aload_n 0, 1) := by decide +kernel
theorem dX0_measure_133 : dec mX0_measure 133 = .ok (.getfield 28, 3) := by decide +kernel
theorem dX0_measure_136 : dec mX0_measure 136 = .ok (.iload_n 1, 1) := by decide +kernel
theorem dX0_measure_137 : dec mX0_measure 137 = .ok (.aload_n 0, 1) := by decide +kernel
theorem dX0_measure_138 : dec mX0_measure 138 = .ok (.iload 4, 2) := by decide +kernel
theorem dX0_measure_140 : dec mX0_measure 140 = .ok (.invokevirtual 105, 3) := by decide +kernel
theorem dX0_measure_143 : dec mX0_measure 143 = .ok (.invokestatic 85, 3) := by decide +kernel
theorem dX0_measure_146 : dec mX0_measure 146 = .ok (.iinc 1 1, 3) := by decide +kernel
theorem dX0_measure_149 : dec mX0_measure 149 = .ok (.iinc 4 1, 3) := by decide +kernel
theorem dX0_measure_152 : dec mX0_measure 152 = .ok (.goto (-64), 3) := by decide +kernel
theorem dX0_measure_155 : dec mX0_measure 155 = .ok (.iinc 3 1, 3) := by decide +kernel
theorem dX0_measure_158 : dec mX0_measure 158 = .ok (.goto (-84), 3) := by decide +kernel
theorem dX0_measure_161 : dec mX0_measure 161 = .ok (.iinc 2 1, 3) := by decide +kernel
theorem dX0_measure_164 : dec mX0_measure 164 = .ok (.goto (-103), 3) := by decide +kernel
theorem dX0_measure_167 : dec mX0_measure 167 = .ok (.return_, 1) := by decide +kernel
theorem dX0_placeAtFirst_0 : dec mX0_placeAtFirst 0 = .ok (.aload_n 0, 1) := by decide +kernel
theorem dX0_placeAtFirst_1 : dec mX0_placeAtFirst 1 = .ok (.getfield 96, 3) := by decide +kernel
theorem dX0_placeAtFirst_4 : dec mX0_placeAtFirst 4 = .ok (.iconst 2, 1) := by decide +kernel
theorem dX0_placeAtFirst_5 : dec mX0_placeAtFirst 5 = .ok (.irem, 1) := by decide +kernel
theorem dX0_placeAtFirst_6 : dec mX0_placeAtFirst 6 = .ok (.ifCond .ne 36, 3) := by decide +kernel
theorem dX0_placeAtFirst_9 : dec mX0_placeAtFirst 9 = .ok (.aload_n 0, 1) := by decide +kernel
theorem dX0_placeAtFirst_10 : dec mX0_placeAtFirst 10 = .ok (.getfield 12, 3) := by decide +kernel
theorem dX0_placeAtFirst_13 : dec mX0_placeAtFirst 13 = .ok (.getfield 109, 3) := by decide +kernel
theorem dX0_placeAtFirst_16 : dec mX0_placeAtFirst 16 = .ok (.iload_n 1, 1) := by decide +kernel
theorem dX0_placeAtFirst_17 : dec mX0_placeAtFirst 17 = .ok (.iconst 2, 1) := by decide +kernel
theorem dX0_placeAtFirst_18 : dec mX0_placeAtFirst 18 = .ok (.iload_n 1, 1) := by decide +kernel
theorem dX0_placeAtFirst_19 : dec mX0_placeAtFirst 19 = .ok (.imul, 1) := by decide +kernel
theorem dX0_placeAtFirst_20 : dec mX0_placeAtFirst 20 = .ok (.invokestatic 85, 3) := by decide +kernel
theorem dX0_placeAtFirst_23 : dec mX0_placeAtFirst 23 = .ok (.aload_n 0, 1) := by decide +kernel
theorem dX0_placeAtFirst_24 : dec mX0_placeAtFirst 24 = .ok (.getfield 12, 3) := by decide +kernel
theorem dX0_placeAtFirst_27 : dec mX0_placeAtFirst 27 = .ok (.getfield 112, 3) := by decide +kernel
theorem dX0_placeAtFirst_30 : dec mX0_placeAtFirst 30 = .ok (.iload_n 1, 1) := by decide +kernel
theorem dX0_placeAtFirst_31 : dec mX0_placeAtFirst 31 = .ok (.iconst 2, 1) := by decide +kernel
theorem dX0_placeAtFirst_32 : dec mX0_placeAtFirst 32 = .ok (.iload_n 1, 1) := by decide +kernel
theorem dX0_placeAtFirst_33 : dec mX0_placeAtFirst 33 = .ok (.imul, 1) := by decide +kernel
theorem dX0_placeAtFirst_34 : dec mX0_placeAtFirst 34 = .ok (.iconst 1, 1) := by decide +kernel
theorem dX0_placeAtFirst_35 : dec mX0_placeAtFirst 35 = .ok (.iadd, 1) := by decide +kernel
theorem dX0_placeAtFirst_36 : dec mX0_placeAtFirst 36 = .ok (.invokestatic 85, 3) := by decide +kernel
theorem dX0_placeAtFirst_39 : dec mX0_placeAtFirst 39 = .ok (.goto 46, 3) := by decide +kernel
theorem dX0_placeAtFirst_42 : dec mX0_placeAtFirst 42 = .ok (.iload_n 1, 1) := by decide +kernel
theorem dX0_placeAtFirst_43 : dec mX0_placeAtFirst 43 = .ok (.iload_n 1, 1) := by decide +kernel
theorem dX0_placeAtFirst_44 : dec mX0_placeAtFirst 44 = .ok (.aload_n 0, 1) := by decide +kernel
theorem dX0_placeAtFirst_45 : dec mX0_placeAtFirst 45 = .ok (.getfield 96, 3) := by decide +kernel
theorem dX0_placeAtFirst_48 : dec mX0_placeAtFirst 48 = .ok (.idiv, 1) := by decide +kernel
theorem dX0_placeAtFirst_49 : dec mX0_placeAtFirst 49 = .ok (.aload_n 0, 1) := by decide +kernel
theorem dX0_placeAtFirst_50 : dec mX0_placeAtFirst 50 = .ok (.getfield 96, 3) := by decide +kernel
theorem dX0_placeAtFirst_53 : dec mX0_placeAtFirst 53 = .ok (.imul, 1) := by decide +kernel
theorem dX0_placeAtFirst_54 : dec mX0_placeAtFirst 54 = .ok (.iadd, 1) := by decide +kernel
theorem dX0_placeAtFirst_55 : dec mX0_placeAtFirst 55 = .ok (.istore_n 2, 1) := by decide +kernel
theorem dX0_placeAtFirst_56 : dec mX0_placeAtFirst 56 = .ok (.aload_n 0, 1) := by decide +kernel
theorem dX0_placeAtFirst_57 : dec mX0_placeAtFirst 57 = .ok (.getfield 12, 3) := by decide +kernel
theorem dX0_placeAtFirst_60 : dec mX0_placeAtFirst 60 = .ok (.getfield 109, 3) := by decide +kernel
theorem dX0_placeAtFirst_63 : dec mX0_placeAtFirst 63 = .ok (.iload_n 1, 1) := by decide +kernel
theorem dX0_placeAtFirst_64 : dec mX0_placeAtFirst 64 = .ok (.iload_n 2, 1) := by decide +kernel
theorem dX0_placeAtFirst_65 : dec mX0_placeAtFirst 65 = .ok (.invokestatic 85, 3) := by decide +kernel
theorem dX0_placeAtFirst_68 : dec mX0_placeAtFirst 68 = .ok (.aload_n 0, 1) := by decide +kernel
theorem dX0_placeAtFirst_69 : dec mX0_placeAtFirst 69 = .ok (.getfield 12, 3) := by decide +kernel
theorem dX0_placeAtFirst_72 : dec mX0_placeAtFirst 72 = .ok (.getfield 112, 3) := by decide +kernel
theorem dX0_placeAtFirst_75 : dec mX0_placeAtFirst 75 = .ok (.iload_n 1, 1) := by decide +kernel
theorem dX0_placeAtFirst_76 : dec mX0_placeAtFirst 76 = .ok (.iload_n 2, 1) := by decide +kernel
theorem dX0_placeAtFirst_77 : dec mX0_placeAtFirst 77 = .ok (.aload_n 0, 1) := by decide +kernel
theorem dX0_placeAtFirst_78 : dec mX0_placeAtFirst 78 = .ok (.getfield 96, 3) := by decide +kernel
theorem dX0_placeAtFirst_81 : dec mX0_placeAtFirst 81 = .ok (.iadd, 1) := by decide +kernel
theorem dX0_placeAtFirst_82 : dec mX0_placeAtFirst 82 = .ok (.invokestatic 85, 3) := by decide +kernel
theorem dX0_placeAtFirst_85 : dec mX0_placeAtFirst 85 = .ok (.return_, 1) := by decide +kernel
theorem dX0_markPlaces_0 : dec mX0_markPlaces 0 = .ok (.iconst 0, 1) := by decide +kernel
theorem dX0_markPlaces_1 : dec mX0_markPlaces 1 = .ok (.istore_n 1, 1) := by decide +kernel
theorem dX0_markPlaces_2 : dec mX0_markPlaces 2 = .ok (.iload_n 1, 1) := by decide +kernel
theorem dX0_markPlaces_3 : dec mX0_markPlaces 3 = .ok (.aload_n 0, 1) := by decide +kernel
theorem dX0_markPlaces_4 : dec mX0_markPlaces 4 = .ok (.getfield 75, 3) := by decide +kernel
theorem dX0_markPlaces_7 : dec mX0_markPlaces 7 = .ok (.if_icmp .ge 47, 3) := by decide +kernel
theorem dX0_markPlaces_10 : dec mX0_markPlaces 10 = .ok (.aload_n 0, 1) := by decide +kernel
theorem dX0_markPlaces_11 : dec mX0_markPlaces 11 = .ok (.getfield 31, 3) := by decide +kernel
theorem dX0_markPlaces_14 : dec mX0_markPlaces 14 = .ok (.aload_n 0, 1) := by decide +kernel
theorem dX0_markPlaces_15 : dec mX0_markPlaces 15 = .ok (.getfield 12, 3) := by decide +kernel
theorem dX0_markPlaces_18 : dec mX0_markPlaces 18 = .ok (.getfield 109, 3) := by decide +kernel
theorem dX0_markPlaces_21 : dec mX0_markPlaces 21 = .ok (.iload_n 1, 1) := by decide +kernel
theorem dX0_markPlaces_22 : dec mX0_markPlaces 22 = .ok (.invokestatic 115, 3) := by decide +kernel
theorem dX0_markPlaces_25 : dec mX0_markPlaces 25 = .ok (.iload_n 1, 1) := by decide +kernel
theorem dX0_markPlaces_26 : dec mX0_markPlaces 26 = .ok (.invokestatic 85, 3) := by decide +kernel
theorem dX0_markPlaces_29 : dec mX0_markPlaces 29 = .ok (.aload_n 0, 1) := by decide +kernel
theorem dX0_markPlaces_30 : dec mX0_markPlaces 30 = .ok (.getfield 31, 3) := by decide +kernel
theorem dX0_markPlaces_33 : dec mX0_markPlaces 33 = .ok (.aload_n 0, 1) := by decide +kernel
theorem dX0_markPlaces_34 : dec mX0_markPlaces 34 = .ok (.getfield 12, 3) := by decide +kernel
theorem dX0_markPlaces_37 : dec mX0_markPlaces 37 = .ok (.getfield 112, 3) := by decide +kernel
theorem dX0_markPlaces_40 : dec mX0_markPlaces 40 = .ok (.iload_n 1, 1) := by decide +kernel
theorem dX0_markPlaces_41 : dec mX0_markPlaces 41 = .ok (.invokestatic 115, 3) := by decide +kernel
theorem dX0_markPlaces_44 : dec mX0_markPlaces 44 = .ok (.iload_n 1, 1) := by decide +kernel
theorem dX0_markPlaces_45 : dec mX0_markPlaces 45 = .ok (.invokestatic 85, 3) := by decide +kernel
theorem dX0_markPlaces_48 : dec mX0_markPlaces 48 = .ok (.iinc 1 1, 3) := by decide +kernel
theorem dX0_markPlaces_51 : dec mX0_markPlaces 51 = .ok (.goto (-49), 3) := by decide +kernel
theorem dX0_markPlaces_54 : dec mX0_markPlaces 54 = .ok (.return_, 1) := by decide +kernel
theorem dX0_hasSquare_0 : dec mX0_hasSquare 0 = .ok (.iload_n 1, 1) := by decide +kernel
theorem dX0_hasSquare_1 : dec mX0_hasSquare 1 = .ok (.ifCond .lt 27, 3) := by decide +kernel
theorem dX0_hasSquare_4 : dec mX0_hasSquare 4 = .ok (.iload_n 1, 1) := by decide +kernel
theorem dX0_hasSquare_5 : dec mX0_hasSquare 5 = .ok (.aload_n 0, 1) := by decide +kernel
theorem dX0_hasSquare_6 : dec mX0_hasSquare 6 = .ok (.getfield 96, 3) := by decide +kernel
theorem dX0_hasSquare_9 : dec mX0_hasSquare 9 = .ok (.if_icmp .ge 19, 3) := by decide +kernel
theorem dX0_hasSquare_12 : dec mX0_hasSquare 12 = .ok (.iload_n 2, 1) := by decide +kernel
theorem dX0_hasSquare_13 : dec mX0_hasSquare 13 = .ok (.ifCond .lt 15, 3) := by decide +kernel
theorem dX0_hasSquare_16 : dec mX0_hasSquare 16 = .ok (.iload_n 2, 1) := by decide +kernel
theorem dX0_hasSquare_17 : dec mX0_hasSquare 17 = .ok (.aload_n 0, 1) := by decide +kernel
theorem dX0_hasSquare_18 : dec mX0_hasSquare 18 = .ok (.getfield 99, 3) := by decide +kernel
theorem dX0_hasSquare_21 : dec mX0_hasSquare 21 = .ok (.if_icmp .ge 7, 3) := by decide +kernel
theorem dX0_hasSquare_24 : dec mX0_hasSquare 24 = .ok (.iconst 1, 1) := by decide +kernel
theorem dX0_hasSquare_25 : dec mX0_hasSquare 25 = .ok (.goto 4, 3) := by decide +kernel
theorem dX0_hasSquare_28 : dec mX0_hasSquare 28 = .ok (.iconst 0, 1) := by decide +kernel
theorem dX0_hasSquare_29 : dec mX0_hasSquare 29 = .ok (.ireturn, 1) := by decide +kernel
theorem dX0_squareAt_0 : dec mX0_squareAt 0 = .ok (.iload_n 2, 1) := by decide +kernel
theorem dX0_squareAt_1 : dec mX0_squareAt 1 = .ok (.aload_n 0, 1) := by decide +kernel
theorem dX0_squareAt_2 : dec mX0_squareAt 2 = .ok (.getfield 96, 3) := by decide +kernel
theorem dX0_squareAt_5 : dec mX0_squareAt 5 = .ok (.imul, 1) := by decide +kernel
theorem dX0_squareAt_6 : dec mX0_squareAt 6 = .ok (.iload_n 1, 1) := by decide +kernel
theorem dX0_squareAt_7 : dec mX0_squareAt 7 = .ok (.iadd, 1) := by decide +kernel
theorem dX0_squareAt_8 : dec mX0_squareAt 8 = .ok (.ireturn, 1) := by decide +kernel
theorem dX0_hasPlace_0 : dec mX0_hasPlace 0 = .ok (.iload_n 1, 1) := by decide +kernel
theorem dX0_hasPlace_1 : dec mX0_hasPlace 1 = .ok (.ifCond .lt 15, 3) := by decide +kernel
theorem dX0_hasPlace_4 : dec mX0_hasPlace 4 = .ok (.iload_n 1, 1) := by decide +kernel
theorem dX0_hasPlace_5 : dec mX0_hasPlace 5 = .ok (.aload_n 0, 1) := by decide +kernel
theorem dX0_hasPlace_6 : dec mX0_hasPlace 6 = .ok (.getfield 75, 3) := by decide +kernel
theorem dX0_hasPlace_9 : dec mX0_hasPlace 9 = .ok (.if_icmp .ge 7, 3) := by decide +kernel
theorem dX0_hasPlace_12 : dec mX0_hasPlace 12 = .ok (.iconst 1, 1) := by decide +kernel
theorem dX0_hasPlace_13 : dec mX0_hasPlace 13 = .ok (.goto 4, 3) := by decide +kernel
theorem dX0_hasPlace_16 : dec mX0_hasPlace 16 = .ok (.iconst 0, 1) := by decide +kernel
theorem dX0_hasPlace_17 : dec mX0_hasPlace 17 = .ok (.ireturn, 1) := by decide +kernel
theorem dX0_hasTile_0 : dec mX0_hasTile 0 = .ok (.iload_n 1, 1) := by decide +kernel
theorem dX0_hasTile_1 : dec mX0_hasTile 1 = .ok (.ifCond .lt 15, 3) := by decide +kernel
theorem dX0_hasTile_4 : dec mX0_hasTile 4 = .ok (.iload_n 1, 1) := by decide +kernel
theorem dX0_hasTile_5 : dec mX0_hasTile 5 = .ok (.aload_n 0, 1) := by decide +kernel
theorem dX0_hasTile_6 : dec mX0_hasTile 6 = .ok (.getfield 75, 3) := by decide +kernel
theorem dX0_hasTile_9 : dec mX0_hasTile 9 = .ok (.if_icmp .ge 7, 3) := by decide +kernel
theorem dX0_hasTile_12 : dec mX0_hasTile 12 = .ok (.iconst 1, 1) := by decide +kernel
theorem dX0_hasTile_13 : dec mX0_hasTile 13 = .ok (.goto 4, 3) := by decide +kernel
theorem dX0_hasTile_16 : dec mX0_hasTile 16 = .ok (.iconst 0, 1) := by decide +kernel
theorem dX0_hasTile_17 : dec mX0_hasTile 17 = .ok (.ireturn, 1) := by decide +kernel
theorem dX0_isHeld_0 : dec mX0_isHeld 0 = .ok (.aload_n 0, 1) := by decide +kernel
theorem dX0_isHeld_1 : dec mX0_isHeld 1 = .ok (.getfield 12, 3) := by decide +kernel
theorem dX0_isHeld_4 : dec mX0_isHeld 4 = .ok (.getfield 69, 3) := by decide +kernel
theorem dX0_isHeld_7 : dec mX0_isHeld 7 = .ok (.iload_n 1, 1) := by decide +kernel
theorem dX0_isHeld_8 : dec mX0_isHeld 8 = .ok (.invokestatic 115, 3) := by decide +kernel
theorem dX0_isHeld_11 : dec mX0_isHeld 11 = .ok (.ifCond .eq 7, 3) := by decide +kernel
theorem dX0_isHeld_14 : dec mX0_isHeld 14 = .ok (.iconst 1, 1) := by decide +kernel
theorem dX0_isHeld_15 : dec mX0_isHeld 15 = .ok (.goto 4, 3) := by decide +kernel
theorem dX0_isHeld_18 : dec mX0_isHeld 18 = .ok (.iconst 0, 1) := by decide +kernel
theorem dX0_isHeld_19 : dec mX0_isHeld 19 = .ok (.ireturn, 1) := by decide +kernel
theorem dX0_isAlongRow_0 : dec mX0_isAlongRow 0 = .ok (.aload_n 0, 1) := by decide +kernel
theorem dX0_isAlongRow_1 : dec mX0_isAlongRow 1 = .ok (.getfield 12, 3) := by decide +kernel
theorem dX0_isAlongRow_4 : dec mX0_isAlongRow 4 = .ok (.getfield 112, 3) := by decide +kernel
theorem dX0_isAlongRow_7 : dec mX0_isAlongRow 7 = .ok (.iload_n 1, 1) := by decide +kernel
theorem dX0_isAlongRow_8 : dec mX0_isAlongRow 8 = .ok (.invokestatic 115, 3) := by decide +kernel
theorem dX0_isAlongRow_11 : dec mX0_isAlongRow 11 = .ok (.aload_n 0, 1) := by decide +kernel
theorem dX0_isAlongRow_12 : dec mX0_isAlongRow 12 = .ok (.getfield 12, 3) := by decide +kernel
theorem dX0_isAlongRow_15 : dec mX0_isAlongRow 15 = .ok (.getfield 109, 3) := by decide +kernel
theorem dX0_isAlongRow_18 : dec mX0_isAlongRow 18 = .ok (.iload_n 1, 1) := by decide +kernel
theorem dX0_isAlongRow_19 : dec mX0_isAlongRow 19 = .ok (.invokestatic 115, 3) := by decide +kernel
theorem dX0_isAlongRow_22 : dec mX0_isAlongRow 22 = .ok (.iconst 1, 1) := by decide +kernel
theorem dX0_isAlongRow_23 : dec mX0_isAlongRow 23 = .ok (.iadd, 1) := by decide +kernel
theorem dX0_isAlongRow_24 : dec mX0_isAlongRow 24 = .ok (.if_icmp .ne 7, 3) := by decide +kernel
theorem dX0_isAlongRow_27 : dec mX0_isAlongRow 27 = .ok (.iconst 1, 1) := by decide +kernel
theorem dX0_isAlongRow_28 : dec mX0_isAlongRow 28 = .ok (.goto 4, 3) := by decide +kernel
theorem dX0_isAlongRow_31 : dec mX0_isAlongRow 31 = .ok (.iconst 0, 1) := by decide +kernel
theorem dX0_isAlongRow_32 : dec mX0_isAlongRow 32 = .ok (.ireturn, 1) := by decide +kernel
theorem dX0_placesAlongRows_0 : dec mX0_placesAlongRows 0 = .ok (.iconst 0, 1) := by decide +kernel
theorem dX0_placesAlongRows_1 : dec mX0_placesAlongRows 1 = .ok (.istore_n 1, 1) := by decide +kernel
theorem dX0_placesAlongRows_2 : dec mX0_placesAlongRows 2 = .ok (.iconst 0, 1) := by decide +kernel
theorem dX0_placesAlongRows_3 : dec mX0_placesAlongRows 3 = .ok (.istore_n 2, 1) := by decide +kernel
theorem dX0_placesAlongRows_4 : dec mX0_placesAlongRows 4 = .ok (.iload_n 2, 1) := by decide +kernel
theorem dX0_placesAlongRows_5 : dec mX0_placesAlongRows 5 = .ok (.aload_n 0, 1) := by decide +kernel
theorem dX0_placesAlongRows_6 : dec mX0_placesAlongRows 6 = .ok (.getfield 75, 3) := by decide +kernel
theorem dX0_placesAlongRows_9 : dec mX0_placesAlongRows 9 = .ok (.if_icmp .ge 25, 3) := by decide +kernel
theorem dX0_placesAlongRows_12 : dec mX0_placesAlongRows 12 = .ok (.iload_n 1, 1) := by decide +kernel
theorem dX0_placesAlongRows_13 : dec mX0_placesAlongRows 13 = .ok (.aload_n 0, 1) := by decide +kernel
theorem dX0_placesAlongRows_14 : dec mX0_placesAlongRows 14 = .ok (.iload_n 2, 1) := by decide +kernel
theorem dX0_placesAlongRows_15 : dec mX0_placesAlongRows 15 = .ok (.invokevirtual 119, 3) := by decide +kernel
theorem dX0_placesAlongRows_18 : dec mX0_placesAlongRows 18 = .ok (.ifCond .eq 7, 3) := by decide +kernel
theorem dX0_placesAlongRows_21 : dec mX0_placesAlongRows 21 = .ok (.iconst 1, 1) := by decide +kernel
theorem dX0_placesAlongRows_22 : dec mX0_placesAlongRows 22 = .ok (.goto 4, 3) := by decide +kernel
theorem dX0_placesAlongRows_25 : dec mX0_placesAlongRows 25 = .ok (.iconst 0, 1) := by decide +kernel
theorem dX0_placesAlongRows_26 : dec mX0_placesAlongRows 26 = .ok (.iadd, 1) := by decide +kernel
theorem dX0_placesAlongRows_27 : dec mX0_placesAlongRows 27 = .ok (.istore_n 1, 1) := by decide +kernel
theorem dX0_placesAlongRows_28 : dec mX0_placesAlongRows 28 = .ok (.iinc 2 1, 3) := by decide +kernel
theorem dX0_placesAlongRows_31 : dec mX0_placesAlongRows 31 = .ok (.goto (-27), 3) := by decide +kernel
theorem dX0_placesAlongRows_34 : dec mX0_placesAlongRows 34 = .ok (.iload_n 1, 1) := by decide +kernel
theorem dX0_placesAlongRows_35 : dec mX0_placesAlongRows 35 = .ok (.ireturn, 1) := by decide +kernel
theorem dX0_marked_0 : dec mX0_marked 0 = .ok (.iconst 0, 1) := by decide +kernel
theorem dX0_marked_1 : dec mX0_marked 1 = .ok (.istore_n 2, 1) := by decide +kernel
theorem dX0_marked_2 : dec mX0_marked 2 = .ok (.iconst 0, 1) := by decide +kernel
theorem dX0_marked_3 : dec mX0_marked 3 = .ok (.istore_n 3, 1) := by decide +kernel
theorem dX0_marked_4 : dec mX0_marked 4 = .ok (.iload_n 3, 1) := by decide +kernel
theorem dX0_marked_5 : dec mX0_marked 5 = .ok (.aload_n 0, 1) := by decide +kernel
theorem dX0_marked_6 : dec mX0_marked 6 = .ok (.getfield 75, 3) := by decide +kernel
theorem dX0_marked_9 : dec mX0_marked 9 = .ok (.if_icmp .ge 17, 3) := by decide +kernel
theorem dX0_marked_12 : dec mX0_marked 12 = .ok (.iload_n 2, 1) := by decide +kernel
theorem dX0_marked_13 : dec mX0_marked 13 = .ok (.aload_n 1, 1) := by decide +kernel
theorem dX0_marked_14 : dec mX0_marked 14 = .ok (.iload_n 3, 1) := by decide +kernel
theorem dX0_marked_15 : dec mX0_marked 15 = .ok (.invokestatic 115, 3) := by decide +kernel
theorem dX0_marked_18 : dec mX0_marked 18 = .ok (.iadd, 1) := by decide +kernel
theorem dX0_marked_19 : dec mX0_marked 19 = .ok (.istore_n 2, 1) := by decide +kernel
theorem dX0_marked_20 : dec mX0_marked 20 = .ok (.iinc 3 1, 3) := by decide +kernel
theorem dX0_marked_23 : dec mX0_marked 23 = .ok (.goto (-19), 3) := by decide +kernel
theorem dX0_marked_26 : dec mX0_marked 26 = .ok (.iload_n 2, 1) := by decide +kernel
theorem dX0_marked_27 : dec mX0_marked 27 = .ok (.ireturn, 1) := by decide +kernel
theorem dX0_placeWith_0 : dec mX0_placeWith 0 = .ok (.iconst 0, 1) := by decide +kernel
theorem dX0_placeWith_1 : dec mX0_placeWith 1 = .ok (.istore_n 2, 1) := by decide +kernel
theorem dX0_placeWith_2 : dec mX0_placeWith 2 = .ok (.iload_n 2, 1) := by decide +kernel
theorem dX0_placeWith_3 : dec mX0_placeWith 3 = .ok (.aload_n 0, 1) := by decide +kernel
theorem dX0_placeWith_4 : dec mX0_placeWith 4 = .ok (.getfield 75, 3) := by decide +kernel
theorem dX0_placeWith_7 : dec mX0_placeWith 7 = .ok (.if_icmp .ge 26, 3) := by decide +kernel
theorem dX0_placeWith_10 : dec mX0_placeWith 10 = .ok (.aload_n 0, 1) := by decide +kernel
theorem dX0_placeWith_11 : dec mX0_placeWith 11 = .ok (.getfield 12, 3) := by decide +kernel
theorem dX0_placeWith_14 : dec mX0_placeWith 14 = .ok (.getfield 82, 3) := by decide +kernel
theorem dX0_placeWith_17 : dec mX0_placeWith 17 = .ok (.iload_n 2, 1) := by decide +kernel
theorem dX0_placeWith_18 : dec mX0_placeWith 18 = .ok (.invokestatic 115, 3) := by decide +kernel
theorem dX0_placeWith_21 : dec mX0_placeWith 21 = .ok (.iload_n 1, 1) := by decide +kernel
theorem dX0_placeWith_22 : dec mX0_placeWith 22 = .ok (.if_icmp .ne 5, 3) := by decide +kernel
theorem dX0_placeWith_25 : dec mX0_placeWith 25 = .ok (.iload_n 2, 1) := by decide +kernel
theorem dX0_placeWith_26 : dec mX0_placeWith 26 = .ok (.ireturn, 1) := by decide +kernel
theorem dX0_placeWith_27 : dec mX0_placeWith 27 = .ok (.iinc 2 1, 3) := by decide +kernel
theorem dX0_placeWith_30 : dec mX0_placeWith 30 = .ok (.goto (-28), 3) := by decide +kernel
theorem dX0_placeWith_33 : dec mX0_placeWith 33 = .ok (.iconst (-1), 1) := by decide +kernel
theorem dX0_placeWith_34 : dec mX0_placeWith 34 = .ok (.ireturn, 1) := by decide +kernel
theorem dX0_pipsOn_0 : dec mX0_pipsOn 0 = .ok (.aload_n 0, 1) := by decide +kernel
theorem dX0_pipsOn_1 : dec mX0_pipsOn 1 = .ok (.getfield 31, 3) := by decide +kernel
theorem dX0_pipsOn_4 : dec mX0_pipsOn 4 = .ok (.iload_n 1, 1) := by decide +kernel
theorem dX0_pipsOn_5 : dec mX0_pipsOn 5 = .ok (.invokestatic 115, 3) := by decide +kernel
theorem dX0_pipsOn_8 : dec mX0_pipsOn 8 = .ok (.istore_n 2, 1) := by decide +kernel
theorem dX0_pipsOn_9 : dec mX0_pipsOn 9 = .ok (.aload_n 0, 1) := by decide +kernel
theorem dX0_pipsOn_10 : dec mX0_pipsOn 10 = .ok (.getfield 12, 3) := by decide +kernel
theorem dX0_pipsOn_13 : dec mX0_pipsOn 13 = .ok (.getfield 82, 3) := by decide +kernel
theorem dX0_pipsOn_16 : dec mX0_pipsOn 16 = .ok (.iload_n 2, 1) := by decide +kernel
theorem dX0_pipsOn_17 : dec mX0_pipsOn 17 = .ok (.invokestatic 115, 3) := by decide +kernel
theorem dX0_pipsOn_20 : dec mX0_pipsOn 20 = .ok (.istore_n 3, 1) := by decide +kernel
theorem dX0_pipsOn_21 : dec mX0_pipsOn 21 = .ok (.aload_n 0, 1) := by decide +kernel
theorem dX0_pipsOn_22 : dec mX0_pipsOn 22 = .ok (.getfield 12, 3) := by decide +kernel
theorem dX0_pipsOn_25 : dec mX0_pipsOn 25 = .ok (.getfield 109, 3) := by decide +kernel
theorem dX0_pipsOn_28 : dec mX0_pipsOn 28 = .ok (.iload_n 2, 1) := by decide +kernel
theorem dX0_pipsOn_29 : dec mX0_pipsOn 29 = .ok (.invokestatic 115, 3) := by decide +kernel
theorem dX0_pipsOn_32 : dec mX0_pipsOn 32 = .ok (.iload_n 1, 1) := by decide +kernel
theorem dX0_pipsOn_33 : dec mX0_pipsOn 33 = .ok (.if_icmp .ne 7, 3) := by decide +kernel
theorem dX0_pipsOn_36 : dec mX0_pipsOn 36 = .ok (.iconst 1, 1) := by decide +kernel
theorem dX0_pipsOn_37 : dec mX0_pipsOn 37 = .ok (.goto 4, 3) := by decide +kernel
theorem dX0_pipsOn_40 : dec mX0_pipsOn 40 = .ok (.iconst 0, 1) := by decide +kernel
theorem dX0_pipsOn_41 : dec mX0_pipsOn 41 = .ok (.istore 4, 2) := by decide +kernel
theorem dX0_pipsOn_43 : dec mX0_pipsOn 43 = .ok (.aload_n 0, 1) := by decide +kernel
theorem dX0_pipsOn_44 : dec mX0_pipsOn 44 = .ok (.getfield 12, 3) := by decide +kernel
theorem dX0_pipsOn_47 : dec mX0_pipsOn 47 = .ok (.getfield 66, 3) := by decide +kernel
theorem dX0_pipsOn_50 : dec mX0_pipsOn 50 = .ok (.iload_n 2, 1) := by decide +kernel
theorem dX0_pipsOn_51 : dec mX0_pipsOn 51 = .ok (.invokestatic 115, 3) := by decide +kernel
theorem dX0_pipsOn_54 : dec mX0_pipsOn 54 = .ok (.ifCond .eq 7, 3) := by decide +kernel
theorem dX0_pipsOn_57 : dec mX0_pipsOn 57 = .ok (.iconst 1, 1) := by decide +kernel
theorem dX0_pipsOn_58 : dec mX0_pipsOn 58 = .ok (.goto 4, 3) := by decide +kernel
theorem dX0_pipsOn_61 : dec mX0_pipsOn 61 = .ok (.iconst 0, 1) := by decide +kernel
theorem dX0_pipsOn_62 : dec mX0_pipsOn 62 = .ok (.istore 5, 2) := by decide +kernel
theorem dX0_pipsOn_64 : dec mX0_pipsOn 64 = .ok (.iload 4, 2) := by decide +kernel
theorem dX0_pipsOn_66 : dec mX0_pipsOn 66 = .ok (.iload 5, 2) := by decide +kernel
theorem dX0_pipsOn_68 : dec mX0_pipsOn 68 = .ok (.if_icmp .ne 14, 3) := by decide +kernel
theorem dX0_pipsOn_71 : dec mX0_pipsOn 71 = .ok (.aload_n 0, 1) := by decide +kernel
theorem dX0_pipsOn_72 : dec mX0_pipsOn 72 = .ok (.getfield 22, 3) := by decide +kernel
theorem dX0_pipsOn_75 : dec mX0_pipsOn 75 = .ok (.iload_n 3, 1) := by decide +kernel
theorem dX0_pipsOn_76 : dec mX0_pipsOn 76 = .ok (.invokestatic 115, 3) := by decide +kernel
theorem dX0_pipsOn_79 : dec mX0_pipsOn 79 = .ok (.goto 11, 3) := by decide +kernel
theorem dX0_pipsOn_82 : dec mX0_pipsOn 82 = .ok (.aload_n 0, 1) := by decide +kernel
theorem dX0_pipsOn_83 : dec mX0_pipsOn 83 = .ok (.getfield 18, 3) := by decide +kernel
theorem dX0_pipsOn_86 : dec mX0_pipsOn 86 = .ok (.iload_n 3, 1) := by decide +kernel
theorem dX0_pipsOn_87 : dec mX0_pipsOn 87 = .ok (.invokestatic 115, 3) := by decide +kernel
theorem dX0_pipsOn_90 : dec mX0_pipsOn 90 = .ok (.ireturn, 1) := by decide +kernel
theorem dX0_shade_0 : dec mX0_shade 0 = .ok (.aload_n 0, 1) := by decide +kernel
theorem dX0_shade_1 : dec mX0_shade 1 = .ok (.getfield 12, 3) := by decide +kernel
theorem dX0_shade_4 : dec mX0_shade 4 = .ok (.getfield 47, 3) := by decide +kernel
theorem dX0_shade_7 : dec mX0_shade 7 = .ok (.ifCond .le 18, 3) := by decide +kernel
theorem dX0_shade_10 : dec mX0_shade 10 = .ok (.bipush 99, 2) := by decide +kernel
theorem dX0_shade_12 : dec mX0_shade 12 = .ok (.iload_n 1, 1) := by decide +kernel
theorem dX0_shade_13 : dec mX0_shade 13 = .ok (.imul, 1) := by decide +kernel
theorem dX0_shade_14 : dec mX0_shade 14 = .ok (.aload_n 0, 1) := by decide +kernel
theorem dX0_shade_15 : dec mX0_shade 15 = .ok (.getfield 12, 3) := by decide +kernel
theorem dX0_shade_18 : dec mX0_shade 18 = .ok (.getfield 47, 3) := by decide +kernel
theorem dX0_shade_21 : dec mX0_shade 21 = .ok (.idiv, 1) := by decide +kernel
theorem dX0_shade_22 : dec mX0_shade 22 = .ok (.goto 4, 3) := by decide +kernel
theorem dX0_shade_25 : dec mX0_shade 25 = .ok (.iconst 0, 1) := by decide +kernel
theorem dX0_shade_26 : dec mX0_shade 26 = .ok (.ireturn, 1) := by decide +kernel
theorem dX0_miss_0 : dec mX0_miss 0 = .ok (.iload_n 0, 1) := by decide +kernel
theorem dX0_miss_1 : dec mX0_miss 1 = .ok (.iload_n 1, 1) := by decide +kernel
theorem dX0_miss_2 : dec mX0_miss 2 = .ok (.isub, 1) := by decide +kernel
theorem dX0_miss_3 : dec mX0_miss 3 = .ok (.iload_n 0, 1) := by decide +kernel
theorem dX0_miss_4 : dec mX0_miss 4 = .ok (.iload_n 1, 1) := by decide +kernel
theorem dX0_miss_5 : dec mX0_miss 5 = .ok (.isub, 1) := by decide +kernel
theorem dX0_miss_6 : dec mX0_miss 6 = .ok (.imul, 1) := by decide +kernel
theorem dX0_miss_7 : dec mX0_miss 7 = .ok (.ireturn, 1) := by decide +kernel
theorem dX0_both_0 : dec mX0_both 0 = .ok (.iload_n 0, 1) := by decide +kernel
theorem dX0_both_1 : dec mX0_both 1 = .ok (.iload_n 2, 1) := by decide +kernel
theorem dX0_both_2 : dec mX0_both 2 = .ok (.isub, 1) := by decide +kernel
theorem dX0_both_3 : dec mX0_both 3 = .ok (.iload_n 0, 1) := by decide +kernel
theorem dX0_both_4 : dec mX0_both 4 = .ok (.iload_n 2, 1) := by decide +kernel
theorem dX0_both_5 : dec mX0_both 5 = .ok (.isub, 1) := by decide +kernel
theorem dX0_both_6 : dec mX0_both 6 = .ok (.imul, 1) := by decide +kernel
theorem dX0_both_7 : dec mX0_both 7 = .ok (.iload_n 1, 1) := by decide +kernel
theorem dX0_both_8 : dec mX0_both 8 = .ok (.iload_n 3, 1) := by decide +kernel
theorem dX0_both_9 : dec mX0_both 9 = .ok (.isub, 1) := by decide +kernel
theorem dX0_both_10 : dec mX0_both 10 = .ok (.iload_n 1, 1) := by decide +kernel
theorem dX0_both_11 : dec mX0_both 11 = .ok (.iload_n 3, 1) := by decide +kernel
theorem dX0_both_12 : dec mX0_both 12 = .ok (.isub, 1) := by decide +kernel
theorem dX0_both_13 : dec mX0_both 13 = .ok (.imul, 1) := by decide +kernel
theorem dX0_both_14 : dec mX0_both 14 = .ok (.iadd, 1) := by decide +kernel
theorem dX0_both_15 : dec mX0_both 15 = .ok (.ireturn, 1) := by decide +kernel
theorem dX0_leastOf_0 : dec mX0_leastOf 0 = .ok (.iload_n 0, 1) := by decide +kernel
theorem dX0_leastOf_1 : dec mX0_leastOf 1 = .ok (.iload_n 2, 1) := by decide +kernel
theorem dX0_leastOf_2 : dec mX0_leastOf 2 = .ok (.isub, 1) := by decide +kernel
theorem dX0_leastOf_3 : dec mX0_leastOf 3 = .ok (.iload_n 0, 1) := by decide +kernel
theorem dX0_leastOf_4 : dec mX0_leastOf 4 = .ok (.iload_n 2, 1) := by decide +kernel
theorem dX0_leastOf_5 : dec mX0_leastOf 5 = .ok (.isub, 1) := by decide +kernel
theorem dX0_leastOf_6 : dec mX0_leastOf 6 = .ok (.imul, 1) := by decide +kernel
theorem dX0_leastOf_7 : dec mX0_leastOf 7 = .ok (.iload_n 1, 1) := by decide +kernel
theorem dX0_leastOf_8 : dec mX0_leastOf 8 = .ok (.iload_n 3, 1) := by decide +kernel
theorem dX0_leastOf_9 : dec mX0_leastOf 9 = .ok (.isub, 1) := by decide +kernel
theorem dX0_leastOf_10 : dec mX0_leastOf 10 = .ok (.iload_n 1, 1) := by decide +kernel
theorem dX0_leastOf_11 : dec mX0_leastOf 11 = .ok (.iload_n 3, 1) := by decide +kernel
theorem dX0_leastOf_12 : dec mX0_leastOf 12 = .ok (.isub, 1) := by decide +kernel
theorem dX0_leastOf_13 : dec mX0_leastOf 13 = .ok (.imul, 1) := by decide +kernel
theorem dX0_leastOf_14 : dec mX0_leastOf 14 = .ok (.iadd, 1) := by decide +kernel
theorem dX0_leastOf_15 : dec mX0_leastOf 15 = .ok (.istore 4, 2) := by decide +kernel
theorem dX0_leastOf_17 : dec mX0_leastOf 17 = .ok (.iload_n 0, 1) := by decide +kernel
theorem dX0_leastOf_18 : dec mX0_leastOf 18 = .ok (.iload_n 3, 1) := by decide +kernel
theorem dX0_leastOf_19 : dec mX0_leastOf 19 = .ok (.isub, 1) := by decide +kernel
theorem dX0_leastOf_20 : dec mX0_leastOf 20 = .ok (.iload_n 0, 1) := by decide +kernel
theorem dX0_leastOf_21 : dec mX0_leastOf 21 = .ok (.iload_n 3, 1) := by decide +kernel
theorem dX0_leastOf_22 : dec mX0_leastOf 22 = .ok (.isub, 1) := by decide +kernel
theorem dX0_leastOf_23 : dec mX0_leastOf 23 = .ok (.imul, 1) := by decide +kernel
theorem dX0_leastOf_24 : dec mX0_leastOf 24 = .ok (.iload_n 1, 1) := by decide +kernel
theorem dX0_leastOf_25 : dec mX0_leastOf 25 = .ok (.iload_n 2, 1) := by decide +kernel
theorem dX0_leastOf_26 : dec mX0_leastOf 26 = .ok (.isub, 1) := by decide +kernel
theorem dX0_leastOf_27 : dec mX0_leastOf 27 = .ok (.iload_n 1, 1) := by decide +kernel
theorem dX0_leastOf_28 : dec mX0_leastOf 28 = .ok (.iload_n 2, 1) := by decide +kernel
theorem dX0_leastOf_29 : dec mX0_leastOf 29 = .ok (.isub, 1) := by decide +kernel
theorem dX0_leastOf_30 : dec mX0_leastOf 30 = .ok (.imul, 1) := by decide +kernel
theorem dX0_leastOf_31 : dec mX0_leastOf 31 = .ok (.iadd, 1) := by decide +kernel
theorem dX0_leastOf_32 : dec mX0_leastOf 32 = .ok (.istore 5, 2) := by decide +kernel
theorem dX0_leastOf_34 : dec mX0_leastOf 34 = .ok (.iload 4, 2) := by decide +kernel
theorem dX0_leastOf_36 : dec mX0_leastOf 36 = .ok (.iload 5, 2) := by decide +kernel
theorem dX0_leastOf_38 : dec mX0_leastOf 38 = .ok (.if_icmp .ge 8, 3) := by decide +kernel
theorem dX0_leastOf_41 : dec mX0_leastOf 41 = .ok (.iload 4, 2) := by decide +kernel
theorem dX0_leastOf_43 : dec mX0_leastOf 43 = .ok (.goto 5, 3) := by decide +kernel
theorem dX0_leastOf_46 : dec mX0_leastOf 46 = .ok (.iload 5, 2) := by decide +kernel
theorem dX0_leastOf_48 : dec mX0_leastOf 48 = .ok (.ireturn, 1) := by decide +kernel
theorem dX0_errorAt_0 : dec mX0_errorAt 0 = .ok (.aload_n 0, 1) := by decide +kernel
theorem dX0_errorAt_1 : dec mX0_errorAt 1 = .ok (.iload_n 1, 1) := by decide +kernel
theorem dX0_errorAt_2 : dec mX0_errorAt 2 = .ok (.aload_n 0, 1) := by decide +kernel
theorem dX0_errorAt_3 : dec mX0_errorAt 3 = .ok (.getfield 12, 3) := by decide +kernel
theorem dX0_errorAt_6 : dec mX0_errorAt 6 = .ok (.getfield 66, 3) := by decide +kernel
theorem dX0_errorAt_9 : dec mX0_errorAt 9 = .ok (.iload_n 1, 1) := by decide +kernel
theorem dX0_errorAt_10 : dec mX0_errorAt 10 = .ok (.invokestatic 115, 3) := by decide +kernel
theorem dX0_errorAt_13 : dec mX0_errorAt 13 = .ok (.invokevirtual 123, 3) := by decide +kernel
theorem dX0_errorAt_16 : dec mX0_errorAt 16 = .ok (.ireturn, 1) := by decide +kernel
theorem dX0_errorLaid_0 : dec mX0_errorLaid 0 = .ok (.aload_n 0, 1) := by decide +kernel
theorem dX0_errorLaid_1 : dec mX0_errorLaid 1 = .ok (.getfield 12, 3) := by decide +kernel
theorem dX0_errorLaid_4 : dec mX0_errorLaid 4 = .ok (.getfield 82, 3) := by decide +kernel
theorem dX0_errorLaid_7 : dec mX0_errorLaid 7 = .ok (.iload_n 1, 1) := by decide +kernel
theorem dX0_errorLaid_8 : dec mX0_errorLaid 8 = .ok (.invokestatic 115, 3) := by decide +kernel
theorem dX0_errorLaid_11 : dec mX0_errorLaid 11 = .ok (.istore_n 3, 1) := by decide +kernel
theorem dX0_errorLaid_12 : dec mX0_errorLaid 12 = .ok (.aload_n 0, 1) := by decide +kernel
theorem dX0_errorLaid_13 : dec mX0_errorLaid 13 = .ok (.getfield 12, 3) := by decide +kernel
theorem dX0_errorLaid_16 : dec mX0_errorLaid 16 = .ok (.getfield 57, 3) := by decide +kernel
theorem dX0_errorLaid_19 : dec mX0_errorLaid 19 = .ok (.aload_n 0, 1) := by decide +kernel
theorem dX0_errorLaid_20 : dec mX0_errorLaid 20 = .ok (.getfield 12, 3) := by decide +kernel
theorem dX0_errorLaid_23 : dec mX0_errorLaid 23 = .ok (.getfield 109, 3) := by decide +kernel
theorem dX0_errorLaid_26 : dec mX0_errorLaid 26 = .ok (.iload_n 1, 1) := by decide +kernel
theorem dX0_errorLaid_27 : dec mX0_errorLaid 27 = .ok (.invokestatic 115, 3) := by decide +kernel
theorem dX0_errorLaid_30 : dec mX0_errorLaid 30 = .ok (.invokestatic 115, 3) := by decide +kernel
theorem dX0_errorLaid_33 : dec mX0_errorLaid 33 = .ok (.istore 4, 2) := by decide +kernel
theorem dX0_errorLaid_35 : dec mX0_errorLaid 35 = .ok (.aload_n 0, 1) := by decide +kernel
theorem dX0_errorLaid_36 : dec mX0_errorLaid 36 = .ok (.getfield 12, 3) := by decide +kernel
theorem dX0_errorLaid_39 : dec mX0_errorLaid 39 = .ok (.getfield 57, 3) := by decide +kernel
theorem dX0_errorLaid_42 : dec mX0_errorLaid 42 = .ok (.aload_n 0, 1) := by decide +kernel
theorem dX0_errorLaid_43 : dec mX0_errorLaid 43 = .ok (.getfield 12, 3) := by decide +kernel
theorem dX0_errorLaid_46 : dec mX0_errorLaid 46 = .ok (.getfield 112, 3) := by decide +kernel
theorem dX0_errorLaid_49 : dec mX0_errorLaid 49 = .ok (.iload_n 1, 1) := by decide +kernel
theorem dX0_errorLaid_50 : dec mX0_errorLaid 50 = .ok (.invokestatic 115, 3) := by decide +kernel
theorem dX0_errorLaid_53 : dec mX0_errorLaid 53 = .ok (.invokestatic 115, 3) := by decide +kernel
theorem dX0_errorLaid_56 : dec mX0_errorLaid 56 = .ok (.istore 5, 2) := by decide +kernel
theorem dX0_errorLaid_58 : dec mX0_errorLaid 58 = .ok (.aload_n 0, 1) := by decide +kernel
theorem dX0_errorLaid_59 : dec mX0_errorLaid 59 = .ok (.getfield 25, 3) := by decide +kernel
theorem dX0_errorLaid_62 : dec mX0_errorLaid 62 = .ok (.iload_n 3, 1) := by decide +kernel
theorem dX0_errorLaid_63 : dec mX0_errorLaid 63 = .ok (.invokestatic 115, 3) := by decide +kernel
theorem dX0_errorLaid_66 : dec mX0_errorLaid 66 = .ok (.istore 6, 2) := by decide +kernel
theorem dX0_errorLaid_68 : dec mX0_errorLaid 68 = .ok (.aload_n 0, 1) := by decide +kernel
theorem dX0_errorLaid_69 : dec mX0_errorLaid 69 = .ok (.getfield 28, 3) := by decide +kernel
theorem dX0_errorLaid_72 : dec mX0_errorLaid 72 = .ok (.iload_n 3, 1) := by decide +kernel
theorem dX0_errorLaid_73 : dec mX0_errorLaid 73 = .ok (.invokestatic 115, 3) := by decide +kernel
theorem dX0_errorLaid_76 : dec mX0_errorLaid 76 = .ok (.istore 7, 2) := by decide +kernel
theorem dX0_errorLaid_78 : dec mX0_errorLaid 78 = .ok (.iload_n 2, 1) := by decide +kernel
theorem dX0_errorLaid_79 : dec mX0_errorLaid 79 = .ok (.ifCond .ne 17, 3) := by decide +kernel
theorem dX0_errorLaid_82 : dec mX0_errorLaid 82 = .ok (.iload 4, 2) := by decide +kernel
theorem dX0_errorLaid_84 : dec mX0_errorLaid 84 = .ok (.iload 5, 2) := by decide +kernel
theorem dX0_errorLaid_86 : dec mX0_errorLaid 86 = .ok (.iload 6, 2) := by decide +kernel
theorem dX0_errorLaid_88 : dec mX0_errorLaid 88 = .ok (.iload 7, 2) := by decide +kernel
theorem dX0_errorLaid_90 : dec mX0_errorLaid 90 = .ok (.invokestatic 127, 3) := by decide +kernel
theorem dX0_errorLaid_93 : dec mX0_errorLaid 93 = .ok (.goto 14, 3) := by decide +kernel
theorem dX0_errorLaid_96 : dec mX0_errorLaid 96 = .ok (.iload 4, 2) := by decide +kernel
theorem dX0_errorLaid_98 : dec mX0_errorLaid 98 = .ok (.iload 5, 2) := by decide +kernel
theorem dX0_errorLaid_100 : dec mX0_errorLaid 100 = .ok (.iload 7, 2) := by decide +kernel
theorem dX0_errorLaid_102 : dec mX0_errorLaid 102 = .ok (.iload 6, 2) := by decide +kernel
theorem dX0_errorLaid_104 : dec mX0_errorLaid 104 = .ok (.invokestatic 127, 3) := by decide +kernel
theorem dX0_errorLaid_107 : dec mX0_errorLaid 107 = .ok (.ireturn, 1) := by decide +kernel
theorem dX0_leastWith_0 : dec mX0_leastWith 0 = .ok (.aload_n 0, 1) := by decide +kernel
theorem dX0_leastWith_1 : dec mX0_leastWith 1 = .ok (.getfield 12, 3) := by decide +kernel
theorem dX0_leastWith_4 : dec mX0_leastWith 4 = .ok (.getfield 57, 3) := by decide +kernel
theorem dX0_leastWith_7 : dec mX0_leastWith 7 = .ok (.iload_n 1, 1) := by decide +kernel
theorem dX0_leastWith_8 : dec mX0_leastWith 8 = .ok (.invokestatic 115, 3) := by decide +kernel
theorem dX0_leastWith_11 : dec mX0_leastWith 11 = .ok (.aload_n 0, 1) := by decide +kernel
theorem dX0_leastWith_12 : dec mX0_leastWith 12 = .ok (.getfield 12, 3) := by decide +kernel
theorem dX0_leastWith_15 : dec mX0_leastWith 15 = .ok (.getfield 57, 3) := by decide +kernel
theorem dX0_leastWith_18 : dec mX0_leastWith 18 = .ok (.iload_n 2, 1) := by decide +kernel
theorem dX0_leastWith_19 : dec mX0_leastWith 19 = .ok (.invokestatic 115, 3) := by decide +kernel
theorem dX0_leastWith_22 : dec mX0_leastWith 22 = .ok (.aload_n 0, 1) := by decide +kernel
theorem dX0_leastWith_23 : dec mX0_leastWith 23 = .ok (.getfield 25, 3) := by decide +kernel
theorem dX0_leastWith_26 : dec mX0_leastWith 26 = .ok (.iload_n 3, 1) := by decide +kernel
theorem dX0_leastWith_27 : dec mX0_leastWith 27 = .ok (.invokestatic 115, 3) := by decide +kernel
theorem dX0_leastWith_30 : dec mX0_leastWith 30 = .ok (.aload_n 0, 1) := by decide +kernel
theorem dX0_leastWith_31 : dec mX0_leastWith 31 = .ok (.getfield 28, 3) := by decide +kernel
theorem dX0_leastWith_34 : dec mX0_leastWith 34 = .ok (.iload_n 3, 1) := by decide +kernel
theorem dX0_leastWith_35 : dec mX0_leastWith 35 = .ok (.invokestatic 115, 3) := by decide +kernel
theorem dX0_leastWith_38 : dec mX0_leastWith 38 = .ok (.invokestatic 131, 3) := by decide +kernel
theorem dX0_leastWith_41 : dec mX0_leastWith 41 = .ok (.ireturn, 1) := by decide +kernel
theorem dX0_leastAt_0 : dec mX0_leastAt 0 = .ok (.aload_n 0, 1) := by decide +kernel
theorem dX0_leastAt_1 : dec mX0_leastAt 1 = .ok (.aload_n 0, 1) := by decide +kernel
theorem dX0_leastAt_2 : dec mX0_leastAt 2 = .ok (.getfield 12, 3) := by decide +kernel
theorem dX0_leastAt_5 : dec mX0_leastAt 5 = .ok (.getfield 109, 3) := by decide +kernel
theorem dX0_leastAt_8 : dec mX0_leastAt 8 = .ok (.iload_n 1, 1) := by decide +kernel
theorem dX0_leastAt_9 : dec mX0_leastAt 9 = .ok (.invokestatic 115, 3) := by decide +kernel
theorem dX0_leastAt_12 : dec mX0_leastAt 12 = .ok (.aload_n 0, 1) := by decide +kernel
theorem dX0_leastAt_13 : dec mX0_leastAt 13 = .ok (.getfield 12, 3) := by decide +kernel
theorem dX0_leastAt_16 : dec mX0_leastAt 16 = .ok (.getfield 112, 3) := by decide +kernel
theorem dX0_leastAt_19 : dec mX0_leastAt 19 = .ok (.iload_n 1, 1) := by decide +kernel
theorem dX0_leastAt_20 : dec mX0_leastAt 20 = .ok (.invokestatic 115, 3) := by decide +kernel
theorem dX0_leastAt_23 : dec mX0_leastAt 23 = .ok (.iload_n 2, 1) := by decide +kernel
theorem dX0_leastAt_24 : dec mX0_leastAt 24 = .ok (.invokevirtual 134, 3) := by decide +kernel
theorem dX0_leastAt_27 : dec mX0_leastAt 27 = .ok (.ireturn, 1) := by decide +kernel
theorem dX0_errorOfAll_0 : dec mX0_errorOfAll 0 = .ok (.iconst 0, 1) := by decide +kernel
theorem dX0_errorOfAll_1 : dec mX0_errorOfAll 1 = .ok (.istore_n 1, 1) := by decide +kernel
theorem dX0_errorOfAll_2 : dec mX0_errorOfAll 2 = .ok (.iconst 0, 1) := by decide +kernel
theorem dX0_errorOfAll_3 : dec mX0_errorOfAll 3 = .ok (.istore_n 2, 1) := by decide +kernel
theorem dX0_errorOfAll_4 : dec mX0_errorOfAll 4 = .ok (.iload_n 2, 1) := by decide +kernel
theorem dX0_errorOfAll_5 : dec mX0_errorOfAll 5 = .ok (.aload_n 0, 1) := by decide +kernel
theorem dX0_errorOfAll_6 : dec mX0_errorOfAll 6 = .ok (.getfield 75, 3) := by decide +kernel
theorem dX0_errorOfAll_9 : dec mX0_errorOfAll 9 = .ok (.if_icmp .ge 17, 3) := by decide +kernel
theorem dX0_errorOfAll_12 : dec mX0_errorOfAll 12 = .ok (.iload_n 1, 1) := by decide +kernel
theorem dX0_errorOfAll_13 : dec mX0_errorOfAll 13 = .ok (.aload_n 0, 1) := by decide +kernel
theorem dX0_errorOfAll_14 : dec mX0_errorOfAll 14 = .ok (.iload_n 2, 1) := by decide +kernel
theorem dX0_errorOfAll_15 : dec mX0_errorOfAll 15 = .ok (.invokevirtual 138, 3) := by decide +kernel
theorem dX0_errorOfAll_18 : dec mX0_errorOfAll 18 = .ok (.iadd, 1) := by decide +kernel
theorem dX0_errorOfAll_19 : dec mX0_errorOfAll 19 = .ok (.istore_n 1, 1) := by decide +kernel
theorem dX0_errorOfAll_20 : dec mX0_errorOfAll 20 = .ok (.iinc 2 1, 3) := by decide +kernel
theorem dX0_errorOfAll_23 : dec mX0_errorOfAll 23 = .ok (.goto (-19), 3) := by decide +kernel
theorem dX0_errorOfAll_26 : dec mX0_errorOfAll 26 = .ok (.iload_n 1, 1) := by decide +kernel
theorem dX0_errorOfAll_27 : dec mX0_errorOfAll 27 = .ok (.ireturn, 1) := by decide +kernel
theorem dX0_leastOfAll_0 : dec mX0_leastOfAll 0 = .ok (.iconst 0, 1) := by decide +kernel
theorem dX0_leastOfAll_1 : dec mX0_leastOfAll 1 = .ok (.istore_n 1, 1) := by decide +kernel
theorem dX0_leastOfAll_2 : dec mX0_leastOfAll 2 = .ok (.iconst 0, 1) := by decide +kernel
theorem dX0_leastOfAll_3 : dec mX0_leastOfAll 3 = .ok (.istore_n 2, 1) := by decide +kernel
theorem dX0_leastOfAll_4 : dec mX0_leastOfAll 4 = .ok (.iload_n 2, 1) := by decide +kernel
theorem dX0_leastOfAll_5 : dec mX0_leastOfAll 5 = .ok (.aload_n 0, 1) := by decide +kernel
theorem dX0_leastOfAll_6 : dec mX0_leastOfAll 6 = .ok (.getfield 102, 3) := by decide +kernel
theorem dX0_leastOfAll_9 : dec mX0_leastOfAll 9 = .ok (.if_icmp .ge 75, 3) := by decide +kernel
theorem dX0_leastOfAll_12 : dec mX0_leastOfAll 12 = .ok (.aload_n 0, 1) := by decide +kernel
theorem dX0_leastOfAll_13 : dec mX0_leastOfAll 13 = .ok (.getfield 12, 3) := by decide +kernel
theorem dX0_leastOfAll_16 : dec mX0_leastOfAll 16 = .ok (.getfield 57, 3) := by decide +kernel
theorem dX0_leastOfAll_19 : dec mX0_leastOfAll 19 = .ok (.iload_n 2, 1) := by decide +kernel
theorem dX0_leastOfAll_20 : dec mX0_leastOfAll 20 = .ok (.invokestatic 115, 3) := by decide +kernel
theorem dX0_leastOfAll_23 : dec mX0_leastOfAll 23 = .ok (.istore_n 3, 1) := by decide +kernel
theorem dX0_leastOfAll_24 : dec mX0_leastOfAll 24 = .ok (.iload_n 3, 1) := by decide +kernel
theorem dX0_leastOfAll_25 : dec mX0_leastOfAll 25 = .ok (.aload_n 0, 1) := by decide +kernel
theorem dX0_leastOfAll_26 : dec mX0_leastOfAll 26 = .ok (.iconst 0, 1) := by decide +kernel
theorem dX0_leastOfAll_27 : dec mX0_leastOfAll 27 = .ok (.invokevirtual 105, 3) := by decide +kernel
theorem dX0_leastOfAll_30 : dec mX0_leastOfAll 30 = .ok (.invokestatic 141, 3) := by decide +kernel
theorem dX0_leastOfAll_33 : dec mX0_leastOfAll 33 = .ok (.istore 4, 2) := by decide +kernel
theorem dX0_leastOfAll_35 : dec mX0_leastOfAll 35 = .ok (.iconst 1, 1) := by decide +kernel
theorem dX0_leastOfAll_36 : dec mX0_leastOfAll 36 = .ok (.istore 5, 2) := by decide +kernel
theorem dX0_leastOfAll_38 : dec mX0_leastOfAll 38 = .ok (.iload 5, 2) := by decide +kernel
theorem dX0_leastOfAll_40 : dec mX0_leastOfAll 40 = .ok (.aload_n 0, 1) := by decide +kernel
theorem dX0_leastOfAll_41 : dec mX0_leastOfAll 41 = .ok (.getfield 12, 3) := by decide +kernel
theorem dX0_leastOfAll_44 : dec mX0_leastOfAll 44 = .ok (.getfield 47, 3) := by decide +kernel
theorem dX0_leastOfAll_47 : dec mX0_leastOfAll 47 = .ok (.if_icmp .gt 26, 3) := by decide +kernel
theorem dX0_leastOfAll_50 : dec mX0_leastOfAll 50 = .ok (.iload 4, 2) := by decide +kernel
theorem dX0_leastOfAll_52 : dec mX0_leastOfAll 52 = .ok (.iload_n 3, 1) := by decide +kernel
theorem dX0_leastOfAll_53 : dec mX0_leastOfAll 53 = .ok (.aload_n 0, 1) := by decide +kernel
theorem dX0_leastOfAll_54 : dec mX0_leastOfAll 54 = .ok (.iload 5, 2) := by decide +kernel
theorem dX0_leastOfAll_56 : dec mX0_leastOfAll 56 = .ok (.invokevirtual 105, 3) := by decide +kernel
theorem dX0_leastOfAll_59 : dec mX0_leastOfAll 59 = .ok (.invokestatic 141, 3) := by decide +kernel
theorem dX0_leastOfAll_62 : dec mX0_leastOfAll 62 = .ok (.invokestatic 144, 3) := by decide +kernel
theorem dX0_leastOfAll_65 : dec mX0_leastOfAll 65 = .ok (.istore 4, 2) := by decide +kernel
theorem dX0_leastOfAll_67 : dec mX0_leastOfAll 67 = .ok (.iinc 5 1, 3) := by decide +kernel
theorem dX0_leastOfAll_70 : dec mX0_leastOfAll 70 = .ok (.goto (-32), 3) := by decide +kernel
theorem dX0_leastOfAll_73 : dec mX0_leastOfAll 73 = .ok (.iload_n 1, 1) := by decide +kernel
theorem dX0_leastOfAll_74 : dec mX0_leastOfAll 74 = .ok (.iload 4, 2) := by decide +kernel
theorem dX0_leastOfAll_76 : dec mX0_leastOfAll 76 = .ok (.iadd, 1) := by decide +kernel
theorem dX0_leastOfAll_77 : dec mX0_leastOfAll 77 = .ok (.istore_n 1, 1) := by decide +kernel
theorem dX0_leastOfAll_78 : dec mX0_leastOfAll 78 = .ok (.iinc 2 1, 3) := by decide +kernel
theorem dX0_leastOfAll_81 : dec mX0_leastOfAll 81 = .ok (.goto (-77), 3) := by decide +kernel
theorem dX0_leastOfAll_84 : dec mX0_leastOfAll 84 = .ok (.iload_n 1, 1) := by decide +kernel
theorem dX0_leastOfAll_85 : dec mX0_leastOfAll 85 = .ok (.ireturn, 1) := by decide +kernel
theorem dX0_placeOfRank_0 : dec mX0_placeOfRank 0 = .ok (.iconst 0, 1) := by decide +kernel
theorem dX0_placeOfRank_1 : dec mX0_placeOfRank 1 = .ok (.istore_n 2, 1) := by decide +kernel
theorem dX0_placeOfRank_2 : dec mX0_placeOfRank 2 = .ok (.iload_n 2, 1) := by decide +kernel
theorem dX0_placeOfRank_3 : dec mX0_placeOfRank 3 = .ok (.aload_n 0, 1) := by decide +kernel
theorem dX0_placeOfRank_4 : dec mX0_placeOfRank 4 = .ok (.getfield 75, 3) := by decide +kernel
theorem dX0_placeOfRank_7 : dec mX0_placeOfRank 7 = .ok (.if_icmp .ge 22, 3) := by decide +kernel
theorem dX0_placeOfRank_10 : dec mX0_placeOfRank 10 = .ok (.aload_n 0, 1) := by decide +kernel
theorem dX0_placeOfRank_11 : dec mX0_placeOfRank 11 = .ok (.getfield 44, 3) := by decide +kernel
theorem dX0_placeOfRank_14 : dec mX0_placeOfRank 14 = .ok (.iload_n 2, 1) := by decide +kernel
theorem dX0_placeOfRank_15 : dec mX0_placeOfRank 15 = .ok (.aload_n 0, 1) := by decide +kernel
theorem dX0_placeOfRank_16 : dec mX0_placeOfRank 16 = .ok (.iload_n 2, 1) := by decide +kernel
theorem dX0_placeOfRank_17 : dec mX0_placeOfRank 17 = .ok (.invokevirtual 138, 3) := by decide +kernel
theorem dX0_placeOfRank_20 : dec mX0_placeOfRank 20 = .ok (.invokestatic 85, 3) := by decide +kernel
theorem dX0_placeOfRank_23 : dec mX0_placeOfRank 23 = .ok (.iinc 2 1, 3) := by decide +kernel
theorem dX0_placeOfRank_26 : dec mX0_placeOfRank 26 = .ok (.goto (-24), 3) := by decide +kernel
theorem dX0_placeOfRank_29 : dec mX0_placeOfRank 29 = .ok (.iconst 0, 1) := by decide +kernel
theorem dX0_placeOfRank_30 : dec mX0_placeOfRank 30 = .ok (.istore_n 2, 1) := by decide +kernel
theorem dX0_placeOfRank_31 : dec mX0_placeOfRank 31 = .ok (.iload_n 2, 1) := by decide +kernel
theorem dX0_placeOfRank_32 : dec mX0_placeOfRank 32 = .ok (.aload_n 0, 1) := by decide +kernel
theorem dX0_placeOfRank_33 : dec mX0_placeOfRank 33 = .ok (.getfield 75, 3) := by decide +kernel
theorem dX0_placeOfRank_36 : dec mX0_placeOfRank 36 = .ok (.if_icmp .ge 20, 3) := by decide +kernel
theorem dX0_placeOfRank_39 : dec mX0_placeOfRank 39 = .ok (.aload_n 0, 1) := by decide +kernel
theorem dX0_placeOfRank_40 : dec mX0_placeOfRank 40 = .ok (.iload_n 2, 1) := by decide +kernel
theorem dX0_placeOfRank_41 : dec mX0_placeOfRank 41 = .ok (.invokevirtual 149, 3) := by decide +kernel
theorem dX0_placeOfRank_44 : dec mX0_placeOfRank 44 = .ok (.iload_n 1, 1) := by decide +kernel
theorem dX0_placeOfRank_45 : dec mX0_placeOfRank 45 = .ok (.if_icmp .ne 5, 3) := by decide +kernel
theorem dX0_placeOfRank_48 : dec mX0_placeOfRank 48 = .ok (.iload_n 2, 1) := by decide +kernel
theorem dX0_placeOfRank_49 : dec mX0_placeOfRank 49 = .ok (.ireturn, 1) := by decide +kernel
theorem dX0_placeOfRank_50 : dec mX0_placeOfRank 50 = .ok (.iinc 2 1, 3) := by decide +kernel
theorem dX0_placeOfRank_53 : dec mX0_placeOfRank 53 = .ok (.goto (-22), 3) := by decide +kernel
theorem dX0_placeOfRank_56 : dec mX0_placeOfRank 56 = .ok (.iconst (-1), 1) := by decide +kernel
theorem dX0_placeOfRank_57 : dec mX0_placeOfRank 57 = .ok (.ireturn, 1) := by decide +kernel
theorem dX0_rankOf_0 : dec mX0_rankOf 0 = .ok (.iconst 0, 1) := by decide +kernel
theorem dX0_rankOf_1 : dec mX0_rankOf 1 = .ok (.istore_n 2, 1) := by decide +kernel
theorem dX0_rankOf_2 : dec mX0_rankOf 2 = .ok (.aload_n 0, 1) := by decide +kernel
theorem dX0_rankOf_3 : dec mX0_rankOf 3 = .ok (.getfield 44, 3) := by decide +kernel
theorem dX0_rankOf_6 : dec mX0_rankOf 6 = .ok (.iload_n 1, 1) := by decide +kernel
theorem dX0_rankOf_7 : dec mX0_rankOf 7 = .ok (.invokestatic 115, 3) := by decide +kernel
theorem dX0_rankOf_10 : dec mX0_rankOf 10 = .ok (.istore_n 3, 1) := by decide +kernel
theorem dX0_rankOf_11 : dec mX0_rankOf 11 = .ok (.iconst 0, 1) := by decide +kernel
theorem dX0_rankOf_12 : dec mX0_rankOf 12 = .ok (.istore 4, 2) := by decide +kernel
theorem dX0_rankOf_14 : dec mX0_rankOf 14 = .ok (.iload 4, 2) := by decide +kernel
theorem dX0_rankOf_16 : dec mX0_rankOf 16 = .ok (.aload_n 0, 1) := by decide +kernel
theorem dX0_rankOf_17 : dec mX0_rankOf 17 = .ok (.getfield 75, 3) := by decide +kernel
theorem dX0_rankOf_20 : dec mX0_rankOf 20 = .ok (.if_icmp .ge 46, 3) := by decide +kernel
theorem dX0_rankOf_23 : dec mX0_rankOf 23 = .ok (.aload_n 0, 1) := by decide +kernel
theorem dX0_rankOf_24 : dec mX0_rankOf 24 = .ok (.getfield 44, 3) := by decide +kernel
theorem dX0_rankOf_27 : dec mX0_rankOf 27 = .ok (.iload 4, 2) := by decide +kernel
theorem dX0_rankOf_29 : dec mX0_rankOf 29 = .ok (.invokestatic 115, 3) := by decide +kernel
theorem dX0_rankOf_32 : dec mX0_rankOf 32 = .ok (.istore 5, 2) := by decide +kernel
theorem dX0_rankOf_34 : dec mX0_rankOf 34 = .ok (.iload_n 2, 1) := by decide +kernel
theorem dX0_rankOf_35 : dec mX0_rankOf 35 = .ok (.iload 5, 2) := by decide +kernel
theorem dX0_rankOf_37 : dec mX0_rankOf 37 = .ok (.iload_n 3, 1) := by decide +kernel
theorem dX0_rankOf_38 : dec mX0_rankOf 38 = .ok (.if_icmp .gt 15, 3) := by decide +kernel
theorem dX0_rankOf_41 : dec mX0_rankOf 41 = .ok (.iload 5, 2) := by decide +kernel
theorem dX0_rankOf_43 : dec mX0_rankOf 43 = .ok (.iload_n 3, 1) := by decide +kernel
theorem dX0_rankOf_44 : dec mX0_rankOf 44 = .ok (.if_icmp .ne 13, 3) := by decide +kernel
theorem dX0_rankOf_47 : dec mX0_rankOf 47 = .ok (.iload 4, 2) := by decide +kernel
theorem dX0_rankOf_49 : dec mX0_rankOf 49 = .ok (.iload_n 1, 1) := by decide +kernel
theorem dX0_rankOf_50 : dec mX0_rankOf 50 = .ok (.if_icmp .ge 7, 3) := by decide +kernel
theorem dX0_rankOf_53 : dec mX0_rankOf 53 = .ok (.iconst 1, 1) := by decide +kernel
theorem dX0_rankOf_54 : dec mX0_rankOf 54 = .ok (.goto 4, 3) := by decide +kernel
theorem dX0_rankOf_57 : dec mX0_rankOf 57 = .ok (.iconst 0, 1) := by decide +kernel
theorem dX0_rankOf_58 : dec mX0_rankOf 58 = .ok (.iadd, 1) := by decide +kernel
theorem dX0_rankOf_59 : dec mX0_rankOf 59 = .ok (.istore_n 2, 1) := by decide +kernel
theorem dX0_rankOf_60 : dec mX0_rankOf 60 = .ok (.iinc 4 1, 3) := by decide +kernel
theorem dX0_rankOf_63 : dec mX0_rankOf 63 = .ok (.goto (-49), 3) := by decide +kernel
theorem dX0_rankOf_66 : dec mX0_rankOf 66 = .ok (.iload_n 2, 1) := by decide +kernel
theorem dX0_rankOf_67 : dec mX0_rankOf 67 = .ok (.ireturn, 1) := by decide +kernel
theorem dX0_bestPlaceFor_0 : dec mX0_bestPlaceFor 0 = .ok (.iconst 0, 1) := by decide +kernel
theorem dX0_bestPlaceFor_1 : dec mX0_bestPlaceFor 1 = .ok (.istore_n 2, 1) := by decide +kernel
theorem dX0_bestPlaceFor_2 : dec mX0_bestPlaceFor 2 = .ok (.aload_n 0, 1) := by decide +kernel
theorem dX0_bestPlaceFor_3 : dec mX0_bestPlaceFor 3 = .ok (.iconst 0, 1) := by decide +kernel
theorem dX0_bestPlaceFor_4 : dec mX0_bestPlaceFor 4 = .ok (.iload_n 1, 1) := by decide +kernel
theorem dX0_bestPlaceFor_5 : dec mX0_bestPlaceFor 5 = .ok (.invokevirtual 152, 3) := by decide +kernel
theorem dX0_bestPlaceFor_8 : dec mX0_bestPlaceFor 8 = .ok (.istore_n 3, 1) := by decide +kernel
theorem dX0_bestPlaceFor_9 : dec mX0_bestPlaceFor 9 = .ok (.iconst 1, 1) := by decide +kernel
theorem dX0_bestPlaceFor_10 : dec mX0_bestPlaceFor 10 = .ok (.istore 4, 2) := by decide +kernel
theorem dX0_bestPlaceFor_12 : dec mX0_bestPlaceFor 12 = .ok (.iload 4, 2) := by decide +kernel
theorem dX0_bestPlaceFor_14 : dec mX0_bestPlaceFor 14 = .ok (.aload_n 0, 1) := by decide +kernel
theorem dX0_bestPlaceFor_15 : dec mX0_bestPlaceFor 15 = .ok (.getfield 75, 3) := by decide +kernel
theorem dX0_bestPlaceFor_18 : dec mX0_bestPlaceFor 18 = .ok (.if_icmp .ge 30, 3) := by decide +kernel
theorem dX0_bestPlaceFor_21 : dec mX0_bestPlaceFor 21 = .ok (.aload_n 0, 1) := by decide +kernel
theorem dX0_bestPlaceFor_22 : dec mX0_bestPlaceFor 22 = .ok (.iload 4, 2) := by decide +kernel
theorem dX0_bestPlaceFor_24 : dec mX0_bestPlaceFor 24 = .ok (.iload_n 1, 1) := by decide +kernel
theorem dX0_bestPlaceFor_25 : dec mX0_bestPlaceFor 25 = .ok (.invokevirtual 152, 3) := by decide +kernel
theorem dX0_bestPlaceFor_28 : dec mX0_bestPlaceFor 28 = .ok (.istore 5, 2) := by decide +kernel
theorem dX0_bestPlaceFor_30 : dec mX0_bestPlaceFor 30 = .ok (.iload 5, 2) := by decide +kernel
theorem dX0_bestPlaceFor_32 : dec mX0_bestPlaceFor 32 = .ok (.iload_n 3, 1) := by decide +kernel
theorem dX0_bestPlaceFor_33 : dec mX0_bestPlaceFor 33 = .ok (.if_icmp .ge 9, 3) := by decide +kernel
theorem dX0_bestPlaceFor_36 : dec mX0_bestPlaceFor 36 = .ok (.iload 5, 2) := by decide +kernel
theorem dX0_bestPlaceFor_38 : dec mX0_bestPlaceFor 38 = .ok (.istore_n 3, 1) := by decide +kernel
theorem dX0_bestPlaceFor_39 : dec mX0_bestPlaceFor 39 = .ok (.iload 4, 2) := by decide +kernel
theorem dX0_bestPlaceFor_41 : dec mX0_bestPlaceFor 41 = .ok (.istore_n 2, 1) := by decide +kernel
theorem dX0_bestPlaceFor_42 : dec mX0_bestPlaceFor 42 = .ok (.iinc 4 1, 3) := by decide +kernel
theorem dX0_bestPlaceFor_45 : dec mX0_bestPlaceFor 45 = .ok (.goto (-33), 3) := by decide +kernel
theorem dX0_bestPlaceFor_48 : dec mX0_bestPlaceFor 48 = .ok (.iload_n 2, 1) := by decide +kernel
theorem dX0_bestPlaceFor_49 : dec mX0_bestPlaceFor 49 = .ok (.ireturn, 1) := by decide +kernel
theorem dX0_tryGrey_0 : dec mX0_tryGrey 0 = .ok (.aload_n 0, 1) := by decide +kernel
theorem dX0_tryGrey_1 : dec mX0_tryGrey 1 = .ok (.iload_n 1, 1) := by decide +kernel
theorem dX0_tryGrey_2 : dec mX0_tryGrey 2 = .ok (.iload_n 2, 1) := by decide +kernel
theorem dX0_tryGrey_3 : dec mX0_tryGrey 3 = .ok (.invokevirtual 155, 3) := by decide +kernel
theorem dX0_tryGrey_6 : dec mX0_tryGrey 6 = .ok (.ifCond .eq 10, 3) := by decide +kernel
theorem dX0_tryGrey_9 : dec mX0_tryGrey 9 = .ok (.iload_n 3, 1) := by decide +kernel
theorem dX0_tryGrey_10 : dec mX0_tryGrey 10 = .ok (.invokestatic 159, 3) := by decide +kernel
theorem dX0_tryGrey_13 : dec mX0_tryGrey 13 = .ok (.ifCond .ne 5, 3) := by decide +kernel
theorem dX0_tryGrey_16 : dec mX0_tryGrey 16 = .ok (.iconst 0, 1) := by decide +kernel
theorem dX0_tryGrey_17 : dec mX0_tryGrey 17 = .ok (.ireturn, 1) := by decide +kernel
theorem dX0_tryGrey_18 : dec mX0_tryGrey 18 = .ok (.aload_n 0, 1) := by decide +kernel
theorem dX0_tryGrey_19 : dec mX0_tryGrey 19 = .ok (.getfield 12, 3) := by decide +kernel
theorem dX0_tryGrey_22 : dec mX0_tryGrey 22 = .ok (.getfield 57, 3) := by decide +kernel
theorem dX0_tryGrey_25 : dec mX0_tryGrey 25 = .ok (.aload_n 0, 1) := by decide +kernel
theorem dX0_tryGrey_26 : dec mX0_tryGrey 26 = .ok (.iload_n 1, 1) := by decide +kernel
theorem dX0_tryGrey_27 : dec mX0_tryGrey 27 = .ok (.iload_n 2, 1) := by decide +kernel
theorem dX0_tryGrey_28 : dec mX0_tryGrey 28 = .ok (.invokevirtual 162, 3) := by decide +kernel
theorem dX0_tryGrey_31 : dec mX0_tryGrey 31 = .ok (.iload_n 3, 1) := by decide +kernel
theorem dX0_tryGrey_32 : dec mX0_tryGrey 32 = .ok (.invokestatic 85, 3) := by decide +kernel
theorem dX0_tryGrey_35 : dec mX0_tryGrey 35 = .ok (.iconst 1, 1) := by decide +kernel
theorem dX0_tryGrey_36 : dec mX0_tryGrey 36 = .ok (.ireturn, 1) := by decide +kernel
theorem dX0_fadeAll_0 : dec mX0_fadeAll 0 = .ok (.aload_n 0, 1) := by decide +kernel
theorem dX0_fadeAll_1 : dec mX0_fadeAll 1 = .ok (.getfield 96, 3) := by decide +kernel
theorem dX0_fadeAll_4 : dec mX0_fadeAll 4 = .ok (.aload_n 0, 1) := by decide +kernel
theorem dX0_fadeAll_5 : dec mX0_fadeAll 5 = .ok (.getfield 99, 3) := by decide +kernel
theorem dX0_fadeAll_8 : dec mX0_fadeAll 8 = .ok (.iadd, 1) := by decide +kernel
theorem dX0_fadeAll_9 : dec mX0_fadeAll 9 = .ok (.iconst 2, 1) := by decide +kernel
theorem dX0_fadeAll_10 : dec mX0_fadeAll 10 = .ok (.isub, 1) := by decide +kernel
theorem dX0_fadeAll_11 : dec mX0_fadeAll 11 = .ok (.istore_n 3, 1) := by decide +kernel
theorem dX0_fadeAll_12 : dec mX0_fadeAll 12 = .ok (.iconst 0, 1) := by decide +kernel
theorem dX0_fadeAll_13 : dec mX0_fadeAll 13 = .ok (.istore 4, 2) := by decide +kernel
theorem dX0_fadeAll_15 : dec mX0_fadeAll 15 = .ok (.iload 4, 2) := by decide +kernel
theorem dX0_fadeAll_17 : dec mX0_fadeAll 17 = .ok (.aload_n 0, 1) := by decide +kernel
theorem dX0_fadeAll_18 : dec mX0_fadeAll 18 = .ok (.getfield 102, 3) := by decide +kernel
theorem dX0_fadeAll_21 : dec mX0_fadeAll 21 = .ok (.if_icmp .ge 62, 3) := by decide +kernel
theorem dX0_fadeAll_24 : dec mX0_fadeAll 24 = .ok (.aload_n 0, 1) := by decide +kernel
theorem dX0_fadeAll_25 : dec mX0_fadeAll 25 = .ok (.getfield 96, 3) := by decide +kernel
theorem dX0_fadeAll_28 : dec mX0_fadeAll 28 = .ok (.ifCond .le 55, 3) := by decide +kernel
theorem dX0_fadeAll_31 : dec mX0_fadeAll 31 = .ok (.iload_n 3, 1) := by decide +kernel
theorem dX0_fadeAll_32 : dec mX0_fadeAll 32 = .ok (.ifCond .le 51, 3) := by decide +kernel
theorem dX0_fadeAll_35 : dec mX0_fadeAll 35 = .ok (.iload 4, 2) := by decide +kernel
theorem dX0_fadeAll_37 : dec mX0_fadeAll 37 = .ok (.aload_n 0, 1) := by decide +kernel
theorem dX0_fadeAll_38 : dec mX0_fadeAll 38 = .ok (.getfield 96, 3) := by decide +kernel
theorem dX0_fadeAll_41 : dec mX0_fadeAll 41 = .ok (.irem, 1) := by decide +kernel
theorem dX0_fadeAll_42 : dec mX0_fadeAll 42 = .ok (.iload 4, 2) := by decide +kernel
theorem dX0_fadeAll_44 : dec mX0_fadeAll 44 = .ok (.aload_n 0, 1) := by decide +kernel
theorem dX0_fadeAll_45 : dec mX0_fadeAll 45 = .ok (.getfield 96, 3) := by decide +kernel
theorem dX0_fadeAll_48 : dec mX0_fadeAll 48 = .ok (.idiv, 1) := by decide +kernel
theorem dX0_fadeAll_49 : dec mX0_fadeAll 49 = .ok (.iadd, 1) := by decide +kernel
theorem dX0_fadeAll_50 : dec mX0_fadeAll 50 = .ok (.istore 5, 2) := by decide +kernel
theorem dX0_fadeAll_52 : dec mX0_fadeAll 52 = .ok (.aload_n 0, 1) := by decide +kernel
theorem dX0_fadeAll_53 : dec mX0_fadeAll 53 = .ok (.getfield 12, 3) := by decide +kernel
theorem dX0_fadeAll_56 : dec mX0_fadeAll 56 = .ok (.getfield 57, 3) := by decide +kernel
theorem dX0_fadeAll_59 : dec mX0_fadeAll 59 = .ok (.iload 4, 2) := by decide +kernel
theorem dX0_fadeAll_61 : dec mX0_fadeAll 61 = .ok (.iload_n 1, 1) := by decide +kernel
theorem dX0_fadeAll_62 : dec mX0_fadeAll 62 = .ok (.iload_n 3, 1) := by decide +kernel
theorem dX0_fadeAll_63 : dec mX0_fadeAll 63 = .ok (.iload 5, 2) := by decide +kernel
theorem dX0_fadeAll_65 : dec mX0_fadeAll 65 = .ok (.isub, 1) := by decide +kernel
theorem dX0_fadeAll_66 : dec mX0_fadeAll 66 = .ok (.imul, 1) := by decide +kernel
theorem dX0_fadeAll_67 : dec mX0_fadeAll 67 = .ok (.iload_n 2, 1) := by decide +kernel
theorem dX0_fadeAll_68 : dec mX0_fadeAll 68 = .ok (.iload 5, 2) := by decide +kernel
theorem dX0_fadeAll_70 : dec mX0_fadeAll 70 = .ok (.imul, 1) := by decide +kernel
theorem dX0_fadeAll_71 : dec mX0_fadeAll 71 = .ok (.iadd, 1) := by decide +kernel
theorem dX0_fadeAll_72 : dec mX0_fadeAll 72 = .ok (.iload_n 3, 1) := by decide +kernel
theorem dX0_fadeAll_73 : dec mX0_fadeAll 73 = .ok (.idiv, 1) := by decide +kernel
theorem dX0_fadeAll_74 : dec mX0_fadeAll 74 = .ok (.invokestatic 85, 3) := by decide +kernel
theorem dX0_fadeAll_77 : dec mX0_fadeAll 77 = .ok (.iinc 4 1, 3) := by decide +kernel
theorem dX0_fadeAll_80 : dec mX0_fadeAll 80 = .ok (.goto (-65), 3) := by decide +kernel
theorem dX0_fadeAll_83 : dec mX0_fadeAll 83 = .ok (.return_, 1) := by decide +kernel
theorem dX0_tryHold_0 : dec mX0_tryHold 0 = .ok (.aload_n 0, 1) := by decide +kernel
theorem dX0_tryHold_1 : dec mX0_tryHold 1 = .ok (.iload_n 1, 1) := by decide +kernel
theorem dX0_tryHold_2 : dec mX0_tryHold 2 = .ok (.invokevirtual 165, 3) := by decide +kernel
theorem dX0_tryHold_5 : dec mX0_tryHold 5 = .ok (.ifCond .ne 5, 3) := by decide +kernel
theorem dX0_tryHold_8 : dec mX0_tryHold 8 = .ok (.iconst 0, 1) := by decide +kernel
theorem dX0_tryHold_9 : dec mX0_tryHold 9 = .ok (.ireturn, 1) := by decide +kernel
theorem dX0_tryHold_10 : dec mX0_tryHold 10 = .ok (.aload_n 0, 1) := by decide +kernel
theorem dX0_tryHold_11 : dec mX0_tryHold 11 = .ok (.getfield 12, 3) := by decide +kernel
theorem dX0_tryHold_14 : dec mX0_tryHold 14 = .ok (.getfield 69, 3) := by decide +kernel
theorem dX0_tryHold_17 : dec mX0_tryHold 17 = .ok (.iload_n 1, 1) := by decide +kernel
theorem dX0_tryHold_18 : dec mX0_tryHold 18 = .ok (.iconst 1, 1) := by decide +kernel
theorem dX0_tryHold_19 : dec mX0_tryHold 19 = .ok (.invokestatic 85, 3) := by decide +kernel
theorem dX0_tryHold_22 : dec mX0_tryHold 22 = .ok (.iconst 1, 1) := by decide +kernel
theorem dX0_tryHold_23 : dec mX0_tryHold 23 = .ok (.ireturn, 1) := by decide +kernel
theorem dX0_turnGain_0 : dec mX0_turnGain 0 = .ok (.aload_n 0, 1) := by decide +kernel
theorem dX0_turnGain_1 : dec mX0_turnGain 1 = .ok (.getfield 12, 3) := by decide +kernel
theorem dX0_turnGain_4 : dec mX0_turnGain 4 = .ok (.getfield 66, 3) := by decide +kernel
theorem dX0_turnGain_7 : dec mX0_turnGain 7 = .ok (.iload_n 1, 1) := by decide +kernel
theorem dX0_turnGain_8 : dec mX0_turnGain 8 = .ok (.invokestatic 115, 3) := by decide +kernel
theorem dX0_turnGain_11 : dec mX0_turnGain 11 = .ok (.istore_n 2, 1) := by decide +kernel
theorem dX0_turnGain_12 : dec mX0_turnGain 12 = .ok (.aload_n 0, 1) := by decide +kernel
theorem dX0_turnGain_13 : dec mX0_turnGain 13 = .ok (.iload_n 1, 1) := by decide +kernel
theorem dX0_turnGain_14 : dec mX0_turnGain 14 = .ok (.iload_n 2, 1) := by decide +kernel
theorem dX0_turnGain_15 : dec mX0_turnGain 15 = .ok (.invokevirtual 123, 3) := by decide +kernel
theorem dX0_turnGain_18 : dec mX0_turnGain 18 = .ok (.aload_n 0, 1) := by decide +kernel
theorem dX0_turnGain_19 : dec mX0_turnGain 19 = .ok (.iload_n 1, 1) := by decide +kernel
theorem dX0_turnGain_20 : dec mX0_turnGain 20 = .ok (.iconst 1, 1) := by decide +kernel
theorem dX0_turnGain_21 : dec mX0_turnGain 21 = .ok (.iload_n 2, 1) := by decide +kernel
theorem dX0_turnGain_22 : dec mX0_turnGain 22 = .ok (.isub, 1) := by decide +kernel
theorem dX0_turnGain_23 : dec mX0_turnGain 23 = .ok (.invokevirtual 123, 3) := by decide +kernel
theorem dX0_turnGain_26 : dec mX0_turnGain 26 = .ok (.isub, 1) := by decide +kernel
theorem dX0_turnGain_27 : dec mX0_turnGain 27 = .ok (.ireturn, 1) := by decide +kernel
theorem dX0_turnPlace_0 : dec mX0_turnPlace 0 = .ok (.aload_n 0, 1) := by decide +kernel
theorem dX0_turnPlace_1 : dec mX0_turnPlace 1 = .ok (.getfield 12, 3) := by decide +kernel
theorem dX0_turnPlace_4 : dec mX0_turnPlace 4 = .ok (.getfield 66, 3) := by decide +kernel
theorem dX0_turnPlace_7 : dec mX0_turnPlace 7 = .ok (.iload_n 1, 1) := by decide +kernel
theorem dX0_turnPlace_8 : dec mX0_turnPlace 8 = .ok (.iconst 1, 1) := by decide +kernel
theorem dX0_turnPlace_9 : dec mX0_turnPlace 9 = .ok (.aload_n 0, 1) := by decide +kernel
theorem dX0_turnPlace_10 : dec mX0_turnPlace 10 = .ok (.getfield 12, 3) := by decide +kernel
theorem dX0_turnPlace_13 : dec mX0_turnPlace 13 = .ok (.getfield 66, 3) := by decide +kernel
theorem dX0_turnPlace_16 : dec mX0_turnPlace 16 = .ok (.iload_n 1, 1) := by decide +kernel
theorem dX0_turnPlace_17 : dec mX0_turnPlace 17 = .ok (.invokestatic 115, 3) := by decide +kernel
theorem dX0_turnPlace_20 : dec mX0_turnPlace 20 = .ok (.isub, 1) := by decide +kernel
theorem dX0_turnPlace_21 : dec mX0_turnPlace 21 = .ok (.invokestatic 85, 3) := by decide +kernel
theorem dX0_turnPlace_24 : dec mX0_turnPlace 24 = .ok (.aload_n 0, 1) := by decide +kernel
theorem dX0_turnPlace_25 : dec mX0_turnPlace 25 = .ok (.getfield 12, 3) := by decide +kernel
theorem dX0_turnPlace_28 : dec mX0_turnPlace 28 = .ok (.dup, 1) := by decide +kernel
theorem dX0_turnPlace_29 : dec mX0_turnPlace 29 = .ok (.getfield 54, 3) := by decide +kernel
theorem dX0_turnPlace_32 : dec mX0_turnPlace 32 = .ok (.iconst 1, 1) := by decide +kernel
theorem dX0_turnPlace_33 : dec mX0_turnPlace 33 = .ok (.iadd, 1) := by decide +kernel
theorem dX0_turnPlace_34 : dec mX0_turnPlace 34 = .ok (.putfield 54, 3) := by decide +kernel
theorem dX0_turnPlace_37 : dec mX0_turnPlace 37 = .ok (.return_, 1) := by decide +kernel
theorem dX0_tryTurn_0 : dec mX0_tryTurn 0 = .ok (.aload_n 0, 1) := by decide +kernel
theorem dX0_tryTurn_1 : dec mX0_tryTurn 1 = .ok (.iload_n 1, 1) := by decide +kernel
theorem dX0_tryTurn_2 : dec mX0_tryTurn 2 = .ok (.invokevirtual 165, 3) := by decide +kernel
theorem dX0_tryTurn_5 : dec mX0_tryTurn 5 = .ok (.ifCond .eq 11, 3) := by decide +kernel
theorem dX0_tryTurn_8 : dec mX0_tryTurn 8 = .ok (.aload_n 0, 1) := by decide +kernel
theorem dX0_tryTurn_9 : dec mX0_tryTurn 9 = .ok (.iload_n 1, 1) := by decide +kernel
theorem dX0_tryTurn_10 : dec mX0_tryTurn 10 = .ok (.invokevirtual 168, 3) := by decide +kernel
theorem dX0_tryTurn_13 : dec mX0_tryTurn 13 = .ok (.ifCond .eq 5, 3) := by decide +kernel
theorem dX0_tryTurn_16 : dec mX0_tryTurn 16 = .ok (.iconst 0, 1) := by decide +kernel
theorem dX0_tryTurn_17 : dec mX0_tryTurn 17 = .ok (.ireturn, 1) := by decide +kernel
theorem dX0_tryTurn_18 : dec mX0_tryTurn 18 = .ok (.aload_n 0, 1) := by decide +kernel
theorem dX0_tryTurn_19 : dec mX0_tryTurn 19 = .ok (.iload_n 1, 1) := by decide +kernel
theorem dX0_tryTurn_20 : dec mX0_tryTurn 20 = .ok (.invokevirtual 171, 3) := by decide +kernel
theorem dX0_tryTurn_23 : dec mX0_tryTurn 23 = .ok (.iconst 1, 1) := by decide +kernel
theorem dX0_tryTurn_24 : dec mX0_tryTurn 24 = .ok (.ireturn, 1) := by decide +kernel
theorem dX0_swapGain_0 : dec mX0_swapGain 0 = .ok (.aload_n 0, 1) := by decide +kernel
theorem dX0_swapGain_1 : dec mX0_swapGain 1 = .ok (.iload_n 1, 1) := by decide +kernel
theorem dX0_swapGain_2 : dec mX0_swapGain 2 = .ok (.invokevirtual 138, 3) := by decide +kernel
theorem dX0_swapGain_5 : dec mX0_swapGain 5 = .ok (.aload_n 0, 1) := by decide +kernel
theorem dX0_swapGain_6 : dec mX0_swapGain 6 = .ok (.iload_n 2, 1) := by decide +kernel
theorem dX0_swapGain_7 : dec mX0_swapGain 7 = .ok (.invokevirtual 138, 3) := by decide +kernel
theorem dX0_swapGain_10 : dec mX0_swapGain 10 = .ok (.iadd, 1) := by decide +kernel
theorem dX0_swapGain_11 : dec mX0_swapGain 11 = .ok (.aload_n 0, 1) := by decide +kernel
theorem dX0_swapGain_12 : dec mX0_swapGain 12 = .ok (.iload_n 1, 1) := by decide +kernel
theorem dX0_swapGain_13 : dec mX0_swapGain 13 = .ok (.aload_n 0, 1) := by decide +kernel
theorem dX0_swapGain_14 : dec mX0_swapGain 14 = .ok (.getfield 12, 3) := by decide +kernel
theorem dX0_swapGain_17 : dec mX0_swapGain 17 = .ok (.getfield 82, 3) := by decide +kernel
theorem dX0_swapGain_20 : dec mX0_swapGain 20 = .ok (.iload_n 2, 1) := by decide +kernel
theorem dX0_swapGain_21 : dec mX0_swapGain 21 = .ok (.invokestatic 115, 3) := by decide +kernel
theorem dX0_swapGain_24 : dec mX0_swapGain 24 = .ok (.invokevirtual 152, 3) := by decide +kernel
theorem dX0_swapGain_27 : dec mX0_swapGain 27 = .ok (.isub, 1) := by decide +kernel
theorem dX0_swapGain_28 : dec mX0_swapGain 28 = .ok (.aload_n 0, 1) := by decide +kernel
theorem dX0_swapGain_29 : dec mX0_swapGain 29 = .ok (.iload_n 2, 1) := by decide +kernel
theorem dX0_swapGain_30 : dec mX0_swapGain 30 = .ok (.aload_n 0, 1) := by decide +kernel
theorem dX0_swapGain_31 : dec mX0_swapGain 31 = .ok (.getfield 12, 3) := by decide +kernel
theorem dX0_swapGain_34 : dec mX0_swapGain 34 = .ok (.getfield 82, 3) := by decide +kernel
theorem dX0_swapGain_37 : dec mX0_swapGain 37 = .ok (.iload_n 1, 1) := by decide +kernel
theorem dX0_swapGain_38 : dec mX0_swapGain 38 = .ok (.invokestatic 115, 3) := by decide +kernel
theorem dX0_swapGain_41 : dec mX0_swapGain 41 = .ok (.invokevirtual 152, 3) := by decide +kernel
theorem dX0_swapGain_44 : dec mX0_swapGain 44 = .ok (.isub, 1) := by decide +kernel
theorem dX0_swapGain_45 : dec mX0_swapGain 45 = .ok (.ireturn, 1) := by decide +kernel
theorem dX0_swapPlaces_0 : dec mX0_swapPlaces 0 = .ok (.aload_n 0, 1) := by decide +kernel
theorem dX0_swapPlaces_1 : dec mX0_swapPlaces 1 = .ok (.getfield 12, 3) := by decide +kernel
theorem dX0_swapPlaces_4 : dec mX0_swapPlaces 4 = .ok (.getfield 82, 3) := by decide +kernel
theorem dX0_swapPlaces_7 : dec mX0_swapPlaces 7 = .ok (.iload_n 1, 1) := by decide +kernel
theorem dX0_swapPlaces_8 : dec mX0_swapPlaces 8 = .ok (.iload_n 2, 1) := by decide +kernel
theorem dX0_swapPlaces_9 : dec mX0_swapPlaces 9 = .ok (.invokestatic 174, 3) := by decide +kernel
theorem dX0_swapPlaces_12 : dec mX0_swapPlaces 12 = .ok (.aload_n 0, 1) := by decide +kernel
theorem dX0_swapPlaces_13 : dec mX0_swapPlaces 13 = .ok (.iload_n 1, 1) := by decide +kernel
theorem dX0_swapPlaces_14 : dec mX0_swapPlaces 14 = .ok (.invokevirtual 177, 3) := by decide +kernel
theorem dX0_swapPlaces_17 : dec mX0_swapPlaces 17 = .ok (.aload_n 0, 1) := by decide +kernel
theorem dX0_swapPlaces_18 : dec mX0_swapPlaces 18 = .ok (.iload_n 2, 1) := by decide +kernel
theorem dX0_swapPlaces_19 : dec mX0_swapPlaces 19 = .ok (.invokevirtual 177, 3) := by decide +kernel
theorem dX0_swapPlaces_22 : dec mX0_swapPlaces 22 = .ok (.aload_n 0, 1) := by decide +kernel
theorem dX0_swapPlaces_23 : dec mX0_swapPlaces 23 = .ok (.getfield 12, 3) := by decide +kernel
theorem dX0_swapPlaces_26 : dec mX0_swapPlaces 26 = .ok (.dup, 1) := by decide +kernel
theorem dX0_swapPlaces_27 : dec mX0_swapPlaces 27 = .ok (.getfield 54, 3) := by decide +kernel
theorem dX0_swapPlaces_30 : dec mX0_swapPlaces 30 = .ok (.iconst 1, 1) := by decide +kernel
theorem dX0_swapPlaces_31 : dec mX0_swapPlaces 31 = .ok (.iadd, 1) := by decide +kernel
theorem dX0_swapPlaces_32 : dec mX0_swapPlaces 32 = .ok (.putfield 54, 3) := by decide +kernel
theorem dX0_swapPlaces_35 : dec mX0_swapPlaces 35 = .ok (.return_, 1) := by decide +kernel
theorem dX0_trySwap_0 : dec mX0_trySwap 0 = .ok (.aload_n 0, 1) := by decide +kernel
theorem dX0_trySwap_1 : dec mX0_trySwap 1 = .ok (.iload_n 1, 1) := by decide +kernel
theorem dX0_trySwap_2 : dec mX0_trySwap 2 = .ok (.invokevirtual 165, 3) := by decide +kernel
theorem dX0_trySwap_5 : dec mX0_trySwap 5 = .ok (.ifCond .eq 32, 3) := by decide +kernel
theorem dX0_trySwap_8 : dec mX0_trySwap 8 = .ok (.aload_n 0, 1) := by decide +kernel
theorem dX0_trySwap_9 : dec mX0_trySwap 9 = .ok (.iload_n 2, 1) := by decide +kernel
theorem dX0_trySwap_10 : dec mX0_trySwap 10 = .ok (.invokevirtual 165, 3) := by decide +kernel
theorem dX0_trySwap_13 : dec mX0_trySwap 13 = .ok (.ifCond .eq 24, 3) := by decide +kernel
theorem dX0_trySwap_16 : dec mX0_trySwap 16 = .ok (.iload_n 1, 1) := by decide +kernel
theorem dX0_trySwap_17 : dec mX0_trySwap 17 = .ok (.iload_n 2, 1) := by decide +kernel
theorem dX0_trySwap_18 : dec mX0_trySwap 18 = .ok (.if_icmp .eq 19, 3) := by decide +kernel
theorem dX0_trySwap_21 : dec mX0_trySwap 21 = .ok (.aload_n 0, 1) := by decide +kernel
theorem dX0_trySwap_22 : dec mX0_trySwap 22 = .ok (.iload_n 1, 1) := by decide +kernel
theorem dX0_trySwap_23 : dec mX0_trySwap 23 = .ok (.invokevirtual 168, 3) := by decide +kernel
theorem dX0_trySwap_26 : dec mX0_trySwap 26 = .ok (.ifCond .ne 11, 3) := by decide +kernel
theorem dX0_trySwap_29 : dec mX0_trySwap 29 = .ok (.aload_n 0, 1) := by decide +kernel
theorem dX0_trySwap_30 : dec mX0_trySwap 30 = .ok (.iload_n 2, 1) := by decide +kernel
theorem dX0_trySwap_31 : dec mX0_trySwap 31 = .ok (.invokevirtual 168, 3) := by decide +kernel
theorem dX0_trySwap_34 : dec mX0_trySwap 34 = .ok (.ifCond .eq 5, 3) := by decide +kernel
theorem dX0_trySwap_37 : dec mX0_trySwap 37 = .ok (.iconst 0, 1) := by decide +kernel
theorem dX0_trySwap_38 : dec mX0_trySwap 38 = .ok (.ireturn, 1) := by decide +kernel
theorem dX0_trySwap_39 : dec mX0_trySwap 39 = .ok (.aload_n 0, 1) := by decide +kernel
theorem dX0_trySwap_40 : dec mX0_trySwap 40 = .ok (.iload_n 1, 1) := by decide +kernel
theorem dX0_trySwap_41 : dec mX0_trySwap 41 = .ok (.iload_n 2, 1) := by decide +kernel
theorem dX0_trySwap_42 : dec mX0_trySwap 42 = .ok (.invokevirtual 180, 3) := by decide +kernel
theorem dX0_trySwap_45 : dec mX0_trySwap 45 = .ok (.iconst 1, 1) := by decide +kernel
theorem dX0_trySwap_46 : dec mX0_trySwap 46 = .ok (.ireturn, 1) := by decide +kernel
theorem dX0_layBetterWay_0 : dec mX0_layBetterWay 0 = .ok (.aload_n 0, 1) := by decide +kernel
theorem dX0_layBetterWay_1 : dec mX0_layBetterWay 1 = .ok (.getfield 12, 3) := by decide +kernel
theorem dX0_layBetterWay_4 : dec mX0_layBetterWay 4 = .ok (.getfield 66, 3) := by decide +kernel
theorem dX0_layBetterWay_7 : dec mX0_layBetterWay 7 = .ok (.iload_n 1, 1) := by decide +kernel
theorem dX0_layBetterWay_8 : dec mX0_layBetterWay 8 = .ok (.aload_n 0, 1) := by decide +kernel
theorem dX0_layBetterWay_9 : dec mX0_layBetterWay 9 = .ok (.iload_n 1, 1) := by decide +kernel
theorem dX0_layBetterWay_10 : dec mX0_layBetterWay 10 = .ok (.iconst 0, 1) := by decide +kernel
theorem dX0_layBetterWay_11 : dec mX0_layBetterWay 11 = .ok (.invokevirtual 123, 3) := by decide +kernel
theorem dX0_layBetterWay_14 : dec mX0_layBetterWay 14 = .ok (.aload_n 0, 1) := by decide +kernel
theorem dX0_layBetterWay_15 : dec mX0_layBetterWay 15 = .ok (.iload_n 1, 1) := by decide +kernel
theorem dX0_layBetterWay_16 : dec mX0_layBetterWay 16 = .ok (.iconst 1, 1) := by decide +kernel
theorem dX0_layBetterWay_17 : dec mX0_layBetterWay 17 = .ok (.invokevirtual 123, 3) := by decide +kernel
theorem dX0_layBetterWay_20 : dec mX0_layBetterWay 20 = .ok (.if_icmp .le 7, 3) := by decide +kernel
theorem dX0_layBetterWay_23 : dec mX0_layBetterWay 23 = .ok (.iconst 1, 1) := by decide +kernel
theorem dX0_layBetterWay_24 : dec mX0_layBetterWay 24 = .ok (.goto 4, 3) := by decide +kernel
theorem dX0_layBetterWay_27 : dec mX0_layBetterWay 27 = .ok (.iconst 0, 1) := by decide +kernel
theorem dX0_layBetterWay_28 : dec mX0_layBetterWay 28 = .ok (.invokestatic 85, 3) := by decide +kernel
theorem dX0_layBetterWay_31 : dec mX0_layBetterWay 31 = .ok (.return_, 1) := by decide +kernel
theorem dX0_partner_0 : dec mX0_partner 0 = .ok (.aload_n 0, 1) := by decide +kernel
theorem dX0_partner_1 : dec mX0_partner 1 = .ok (.getfield 12, 3) := by decide +kernel
theorem dX0_partner_4 : dec mX0_partner 4 = .ok (.getfield 109, 3) := by decide +kernel
theorem dX0_partner_7 : dec mX0_partner 7 = .ok (.iload_n 1, 1) := by decide +kernel
theorem dX0_partner_8 : dec mX0_partner 8 = .ok (.invokestatic 115, 3) := by decide +kernel
theorem dX0_partner_11 : dec mX0_partner 11 = .ok (.istore_n 2, 1) := by decide +kernel
theorem dX0_partner_12 : dec mX0_partner 12 = .ok (.aload_n 0, 1) := by decide +kernel
theorem dX0_partner_13 : dec mX0_partner 13 = .ok (.iload_n 1, 1) := by decide +kernel
theorem dX0_partner_14 : dec mX0_partner 14 = .ok (.invokevirtual 119, 3) := by decide +kernel
theorem dX0_partner_17 : dec mX0_partner 17 = .ok (.istore_n 3, 1) := by decide +kernel
theorem dX0_partner_18 : dec mX0_partner 18 = .ok (.aload_n 0, 1) := by decide +kernel
theorem dX0_partner_19 : dec mX0_partner 19 = .ok (.getfield 96, 3) := by decide +kernel
theorem dX0_partner_22 : dec mX0_partner 22 = .ok (.ifCond .le 22, 3) := by decide +kernel
theorem dX0_partner_25 : dec mX0_partner 25 = .ok (.iload_n 3, 1) := by decide +kernel
theorem dX0_partner_26 : dec mX0_partner 26 = .ok (.ifCond .ne 20, 3) := by decide +kernel
theorem dX0_partner_29 : dec mX0_partner 29 = .ok (.iload_n 2, 1) := by decide +kernel
theorem dX0_partner_30 : dec mX0_partner 30 = .ok (.aload_n 0, 1) := by decide +kernel
theorem dX0_partner_31 : dec mX0_partner 31 = .ok (.getfield 96, 3) := by decide +kernel
theorem dX0_partner_34 : dec mX0_partner 34 = .ok (.irem, 1) := by decide +kernel
theorem dX0_partner_35 : dec mX0_partner 35 = .ok (.aload_n 0, 1) := by decide +kernel
theorem dX0_partner_36 : dec mX0_partner 36 = .ok (.getfield 96, 3) := by decide +kernel
theorem dX0_partner_39 : dec mX0_partner 39 = .ok (.iconst 1, 1) := by decide +kernel
theorem dX0_partner_40 : dec mX0_partner 40 = .ok (.isub, 1) := by decide +kernel
theorem dX0_partner_41 : dec mX0_partner 41 = .ok (.if_icmp .ne 5, 3) := by decide +kernel
theorem dX0_partner_44 : dec mX0_partner 44 = .ok (.iconst (-1), 1) := by decide +kernel
theorem dX0_partner_45 : dec mX0_partner 45 = .ok (.ireturn, 1) := by decide +kernel
theorem dX0_partner_46 : dec mX0_partner 46 = .ok (.iload_n 2, 1) := by decide +kernel
theorem dX0_partner_47 : dec mX0_partner 47 = .ok (.iload_n 3, 1) := by decide +kernel
theorem dX0_partner_48 : dec mX0_partner 48 = .ok (.ifCond .eq 10, 3) := by decide +kernel
theorem dX0_partner_51 : dec mX0_partner 51 = .ok (.aload_n 0, 1) := by decide +kernel
theorem dX0_partner_52 : dec mX0_partner 52 = .ok (.getfield 96, 3) := by decide +kernel
theorem dX0_partner_55 : dec mX0_partner 55 = .ok (.goto 4, 3) := by decide +kernel
theorem dX0_partner_58 : dec mX0_partner 58 = .ok (.iconst 1, 1) := by decide +kernel
theorem dX0_partner_59 : dec mX0_partner 59 = .ok (.iadd, 1) := by decide +kernel
theorem dX0_partner_60 : dec mX0_partner 60 = .ok (.istore 4, 2) := by decide +kernel
theorem dX0_partner_62 : dec mX0_partner 62 = .ok (.iload 4, 2) := by decide +kernel
theorem dX0_partner_64 : dec mX0_partner 64 = .ok (.aload_n 0, 1) := by decide +kernel
theorem dX0_partner_65 : dec mX0_partner 65 = .ok (.getfield 102, 3) := by decide +kernel
theorem dX0_partner_68 : dec mX0_partner 68 = .ok (.if_icmp .lt 5, 3) := by decide +kernel
theorem dX0_partner_71 : dec mX0_partner 71 = .ok (.iconst (-1), 1) := by decide +kernel
theorem dX0_partner_72 : dec mX0_partner 72 = .ok (.ireturn, 1) := by decide +kernel
theorem dX0_partner_73 : dec mX0_partner 73 = .ok (.aload_n 0, 1) := by decide +kernel
theorem dX0_partner_74 : dec mX0_partner 74 = .ok (.getfield 31, 3) := by decide +kernel
theorem dX0_partner_77 : dec mX0_partner 77 = .ok (.iload 4, 2) := by decide +kernel
theorem dX0_partner_79 : dec mX0_partner 79 = .ok (.invokestatic 115, 3) := by decide +kernel
theorem dX0_partner_82 : dec mX0_partner 82 = .ok (.istore 5, 2) := by decide +kernel
theorem dX0_partner_84 : dec mX0_partner 84 = .ok (.aload_n 0, 1) := by decide +kernel
theorem dX0_partner_85 : dec mX0_partner 85 = .ok (.getfield 12, 3) := by decide +kernel
theorem dX0_partner_88 : dec mX0_partner 88 = .ok (.getfield 109, 3) := by decide +kernel
theorem dX0_partner_91 : dec mX0_partner 91 = .ok (.iload 5, 2) := by decide +kernel
theorem dX0_partner_93 : dec mX0_partner 93 = .ok (.invokestatic 115, 3) := by decide +kernel
theorem dX0_partner_96 : dec mX0_partner 96 = .ok (.iload 4, 2) := by decide +kernel
theorem dX0_partner_98 : dec mX0_partner 98 = .ok (.if_icmp .ne 18, 3) := by decide +kernel
theorem dX0_partner_101 : dec mX0_partner 101 = .ok (.aload_n 0, 1) := by decide +kernel
theorem dX0_partner_102 : dec mX0_partner 102 = .ok (.iload 5, 2) := by decide +kernel
theorem dX0_partner_104 : dec mX0_partner 104 = .ok (.invokevirtual 119, 3) := by decide +kernel
theorem dX0_partner_107 : dec mX0_partner 107 = .ok (.iload_n 3, 1) := by decide +kernel
theorem dX0_partner_108 : dec mX0_partner 108 = .ok (.if_icmp .ne 8, 3) := by decide +kernel
theorem dX0_partner_111 : dec mX0_partner 111 = .ok (.iload 5, 2) := by decide +kernel
theorem dX0_partner_113 : dec mX0_partner 113 = .ok (.goto 4, 3) := by decide +kernel
theorem dX0_partner_116 : dec mX0_partner 116 = .ok (.iconst (-1), 1) := by decide +kernel
theorem dX0_partner_117 : dec mX0_partner 117 = .ok (.ireturn, 1) := by decide +kernel
theorem dX0_blocks_0 : dec mX0_blocks 0 = .ok (.iconst 0, 1) := by decide +kernel
theorem dX0_blocks_1 : dec mX0_blocks 1 = .ok (.istore_n 1, 1) := by decide +kernel
theorem dX0_blocks_2 : dec mX0_blocks 2 = .ok (.iconst 0, 1) := by decide +kernel
theorem dX0_blocks_3 : dec mX0_blocks 3 = .ok (.istore_n 2, 1) := by decide +kernel
theorem dX0_blocks_4 : dec mX0_blocks 4 = .ok (.iload_n 2, 1) := by decide +kernel
theorem dX0_blocks_5 : dec mX0_blocks 5 = .ok (.aload_n 0, 1) := by decide +kernel
theorem dX0_blocks_6 : dec mX0_blocks 6 = .ok (.getfield 75, 3) := by decide +kernel
theorem dX0_blocks_9 : dec mX0_blocks 9 = .ok (.if_icmp .ge 26, 3) := by decide +kernel
theorem dX0_blocks_12 : dec mX0_blocks 12 = .ok (.iload_n 1, 1) := by decide +kernel
theorem dX0_blocks_13 : dec mX0_blocks 13 = .ok (.aload_n 0, 1) := by decide +kernel
theorem dX0_blocks_14 : dec mX0_blocks 14 = .ok (.iload_n 2, 1) := by decide +kernel
theorem dX0_blocks_15 : dec mX0_blocks 15 = .ok (.invokevirtual 184, 3) := by decide +kernel
theorem dX0_blocks_18 : dec mX0_blocks 18 = .ok (.iconst (-1), 1) := by decide +kernel
theorem dX0_blocks_19 : dec mX0_blocks 19 = .ok (.if_icmp .eq 7, 3) := by decide +kernel
theorem dX0_blocks_22 : dec mX0_blocks 22 = .ok (.iconst 1, 1) := by decide +kernel
theorem dX0_blocks_23 : dec mX0_blocks 23 = .ok (.goto 4, 3) := by decide +kernel
theorem dX0_blocks_26 : dec mX0_blocks 26 = .ok (.iconst 0, 1) := by decide +kernel
theorem dX0_blocks_27 : dec mX0_blocks 27 = .ok (.iadd, 1) := by decide +kernel
theorem dX0_blocks_28 : dec mX0_blocks 28 = .ok (.istore_n 1, 1) := by decide +kernel
theorem dX0_blocks_29 : dec mX0_blocks 29 = .ok (.iinc 2 1, 3) := by decide +kernel
theorem dX0_blocks_32 : dec mX0_blocks 32 = .ok (.goto (-28), 3) := by decide +kernel
theorem dX0_blocks_35 : dec mX0_blocks 35 = .ok (.iload_n 1, 1) := by decide +kernel
theorem dX0_blocks_36 : dec mX0_blocks 36 = .ok (.ireturn, 1) := by decide +kernel
theorem dX0_blockAt_0 : dec mX0_blockAt 0 = .ok (.iload_n 1, 1) := by decide +kernel
theorem dX0_blockAt_1 : dec mX0_blockAt 1 = .ok (.ifCond .lt 11, 3) := by decide +kernel
theorem dX0_blockAt_4 : dec mX0_blockAt 4 = .ok (.iload_n 1, 1) := by decide +kernel
theorem dX0_blockAt_5 : dec mX0_blockAt 5 = .ok (.aload_n 0, 1) := by decide +kernel
theorem dX0_blockAt_6 : dec mX0_blockAt 6 = .ok (.getfield 102, 3) := by decide +kernel
theorem dX0_blockAt_9 : dec mX0_blockAt 9 = .ok (.if_icmp .lt 5, 3) := by decide +kernel
theorem dX0_blockAt_12 : dec mX0_blockAt 12 = .ok (.iconst (-1), 1) := by decide +kernel
theorem dX0_blockAt_13 : dec mX0_blockAt 13 = .ok (.ireturn, 1) := by decide +kernel
theorem dX0_blockAt_14 : dec mX0_blockAt 14 = .ok (.aload_n 0, 1) := by decide +kernel
theorem dX0_blockAt_15 : dec mX0_blockAt 15 = .ok (.getfield 31, 3) := by decide +kernel
theorem dX0_blockAt_18 : dec mX0_blockAt 18 = .ok (.iload_n 1, 1) := by decide +kernel
theorem dX0_blockAt_19 : dec mX0_blockAt 19 = .ok (.invokestatic 115, 3) := by decide +kernel
theorem dX0_blockAt_22 : dec mX0_blockAt 22 = .ok (.istore_n 2, 1) := by decide +kernel
theorem dX0_blockAt_23 : dec mX0_blockAt 23 = .ok (.aload_n 0, 1) := by decide +kernel
theorem dX0_blockAt_24 : dec mX0_blockAt 24 = .ok (.getfield 12, 3) := by decide +kernel
theorem dX0_blockAt_27 : dec mX0_blockAt 27 = .ok (.getfield 109, 3) := by decide +kernel
theorem dX0_blockAt_30 : dec mX0_blockAt 30 = .ok (.iload_n 2, 1) := by decide +kernel
theorem dX0_blockAt_31 : dec mX0_blockAt 31 = .ok (.invokestatic 115, 3) := by decide +kernel
theorem dX0_blockAt_34 : dec mX0_blockAt 34 = .ok (.iload_n 1, 1) := by decide +kernel
theorem dX0_blockAt_35 : dec mX0_blockAt 35 = .ok (.if_icmp .ne 16, 3) := by decide +kernel
theorem dX0_blockAt_38 : dec mX0_blockAt 38 = .ok (.aload_n 0, 1) := by decide +kernel
theorem dX0_blockAt_39 : dec mX0_blockAt 39 = .ok (.iload_n 2, 1) := by decide +kernel
theorem dX0_blockAt_40 : dec mX0_blockAt 40 = .ok (.invokevirtual 184, 3) := by decide +kernel
theorem dX0_blockAt_43 : dec mX0_blockAt 43 = .ok (.iconst (-1), 1) := by decide +kernel
theorem dX0_blockAt_44 : dec mX0_blockAt 44 = .ok (.if_icmp .eq 7, 3) := by decide +kernel
theorem dX0_blockAt_47 : dec mX0_blockAt 47 = .ok (.iload_n 2, 1) := by decide +kernel
theorem dX0_blockAt_48 : dec mX0_blockAt 48 = .ok (.goto 4, 3) := by decide +kernel
theorem dX0_blockAt_51 : dec mX0_blockAt 51 = .ok (.iconst (-1), 1) := by decide +kernel
theorem dX0_blockAt_52 : dec mX0_blockAt 52 = .ok (.ireturn, 1) := by decide +kernel
theorem dX0_isFreeBlock_0 : dec mX0_isFreeBlock 0 = .ok (.aload_n 0, 1) := by decide +kernel
theorem dX0_isFreeBlock_1 : dec mX0_isFreeBlock 1 = .ok (.iload_n 1, 1) := by decide +kernel
theorem dX0_isFreeBlock_2 : dec mX0_isFreeBlock 2 = .ok (.invokevirtual 184, 3) := by decide +kernel
theorem dX0_isFreeBlock_5 : dec mX0_isFreeBlock 5 = .ok (.istore_n 2, 1) := by decide +kernel
theorem dX0_isFreeBlock_6 : dec mX0_isFreeBlock 6 = .ok (.iload_n 2, 1) := by decide +kernel
theorem dX0_isFreeBlock_7 : dec mX0_isFreeBlock 7 = .ok (.iconst (-1), 1) := by decide +kernel
theorem dX0_isFreeBlock_8 : dec mX0_isFreeBlock 8 = .ok (.if_icmp .eq 23, 3) := by decide +kernel
theorem dX0_isFreeBlock_11 : dec mX0_isFreeBlock 11 = .ok (.aload_n 0, 1) := by decide +kernel
theorem dX0_isFreeBlock_12 : dec mX0_isFreeBlock 12 = .ok (.iload_n 1, 1) := by decide +kernel
theorem dX0_isFreeBlock_13 : dec mX0_isFreeBlock 13 = .ok (.invokevirtual 168, 3) := by decide +kernel
theorem dX0_isFreeBlock_16 : dec mX0_isFreeBlock 16 = .ok (.ifCond .ne 15, 3) := by decide +kernel
theorem dX0_isFreeBlock_19 : dec mX0_isFreeBlock 19 = .ok (.aload_n 0, 1) := by decide +kernel
theorem dX0_isFreeBlock_20 : dec mX0_isFreeBlock 20 = .ok (.iload_n 2, 1) := by decide +kernel
theorem dX0_isFreeBlock_21 : dec mX0_isFreeBlock 21 = .ok (.invokevirtual 168, 3) := by decide +kernel
theorem dX0_isFreeBlock_24 : dec mX0_isFreeBlock 24 = .ok (.ifCond .ne 7, 3) := by decide +kernel
theorem dX0_isFreeBlock_27 : dec mX0_isFreeBlock 27 = .ok (.iconst 1, 1) := by decide +kernel
theorem dX0_isFreeBlock_28 : dec mX0_isFreeBlock 28 = .ok (.goto 4, 3) := by decide +kernel
theorem dX0_isFreeBlock_31 : dec mX0_isFreeBlock 31 = .ok (.iconst 0, 1) := by decide +kernel
theorem dX0_isFreeBlock_32 : dec mX0_isFreeBlock 32 = .ok (.ireturn, 1) := by decide +kernel
theorem dX0_flipGain_0 : dec mX0_flipGain 0 = .ok (.aload_n 0, 1) := by decide +kernel
theorem dX0_flipGain_1 : dec mX0_flipGain 1 = .ok (.iload_n 1, 1) := by decide +kernel
theorem dX0_flipGain_2 : dec mX0_flipGain 2 = .ok (.invokevirtual 119, 3) := by decide +kernel
theorem dX0_flipGain_5 : dec mX0_flipGain 5 = .ok (.istore_n 3, 1) := by decide +kernel
theorem dX0_flipGain_6 : dec mX0_flipGain 6 = .ok (.aload_n 0, 1) := by decide +kernel
theorem dX0_flipGain_7 : dec mX0_flipGain 7 = .ok (.getfield 12, 3) := by decide +kernel
theorem dX0_flipGain_10 : dec mX0_flipGain 10 = .ok (.getfield 109, 3) := by decide +kernel
theorem dX0_flipGain_13 : dec mX0_flipGain 13 = .ok (.iload_n 1, 1) := by decide +kernel
theorem dX0_flipGain_14 : dec mX0_flipGain 14 = .ok (.invokestatic 115, 3) := by decide +kernel
theorem dX0_flipGain_17 : dec mX0_flipGain 17 = .ok (.istore 4, 2) := by decide +kernel
theorem dX0_flipGain_19 : dec mX0_flipGain 19 = .ok (.iload 4, 2) := by decide +kernel
theorem dX0_flipGain_21 : dec mX0_flipGain 21 = .ok (.iload_n 3, 1) := by decide +kernel
theorem dX0_flipGain_22 : dec mX0_flipGain 22 = .ok (.ifCond .eq 7, 3) := by decide +kernel
theorem dX0_flipGain_25 : dec mX0_flipGain 25 = .ok (.iconst 1, 1) := by decide +kernel
theorem dX0_flipGain_26 : dec mX0_flipGain 26 = .ok (.goto 7, 3) := by decide +kernel
theorem dX0_flipGain_29 : dec mX0_flipGain 29 = .ok (.aload_n 0, 1) := by decide +kernel
theorem dX0_flipGain_30 : dec mX0_flipGain 30 = .ok (.getfield 96, 3) := by decide +kernel
theorem dX0_flipGain_33 : dec mX0_flipGain 33 = .ok (.iadd, 1) := by decide +kernel
theorem dX0_flipGain_34 : dec mX0_flipGain 34 = .ok (.istore 5, 2) := by decide +kernel
theorem dX0_flipGain_36 : dec mX0_flipGain 36 = .ok (.iload_n 3, 1) := by decide +kernel
theorem dX0_flipGain_37 : dec mX0_flipGain 37 = .ok (.ifCond .eq 10, 3) := by decide +kernel
theorem dX0_flipGain_40 : dec mX0_flipGain 40 = .ok (.aload_n 0, 1) := by decide +kernel
theorem dX0_flipGain_41 : dec mX0_flipGain 41 = .ok (.getfield 96, 3) := by decide +kernel
theorem dX0_flipGain_44 : dec mX0_flipGain 44 = .ok (.goto 4, 3) := by decide +kernel
theorem dX0_flipGain_47 : dec mX0_flipGain 47 = .ok (.iconst 1, 1) := by decide +kernel
theorem dX0_flipGain_48 : dec mX0_flipGain 48 = .ok (.istore 6, 2) := by decide +kernel
theorem dX0_flipGain_50 : dec mX0_flipGain 50 = .ok (.aload_n 0, 1) := by decide +kernel
theorem dX0_flipGain_51 : dec mX0_flipGain 51 = .ok (.iload_n 1, 1) := by decide +kernel
theorem dX0_flipGain_52 : dec mX0_flipGain 52 = .ok (.aload_n 0, 1) := by decide +kernel
theorem dX0_flipGain_53 : dec mX0_flipGain 53 = .ok (.getfield 12, 3) := by decide +kernel
theorem dX0_flipGain_56 : dec mX0_flipGain 56 = .ok (.getfield 66, 3) := by decide +kernel
theorem dX0_flipGain_59 : dec mX0_flipGain 59 = .ok (.iload_n 1, 1) := by decide +kernel
theorem dX0_flipGain_60 : dec mX0_flipGain 60 = .ok (.invokestatic 115, 3) := by decide +kernel
theorem dX0_flipGain_63 : dec mX0_flipGain 63 = .ok (.invokevirtual 123, 3) := by decide +kernel
theorem dX0_flipGain_66 : dec mX0_flipGain 66 = .ok (.aload_n 0, 1) := by decide +kernel
theorem dX0_flipGain_67 : dec mX0_flipGain 67 = .ok (.iload_n 2, 1) := by decide +kernel
theorem dX0_flipGain_68 : dec mX0_flipGain 68 = .ok (.aload_n 0, 1) := by decide +kernel
theorem dX0_flipGain_69 : dec mX0_flipGain 69 = .ok (.getfield 12, 3) := by decide +kernel
theorem dX0_flipGain_72 : dec mX0_flipGain 72 = .ok (.getfield 66, 3) := by decide +kernel
theorem dX0_flipGain_75 : dec mX0_flipGain 75 = .ok (.iload_n 2, 1) := by decide +kernel
theorem dX0_flipGain_76 : dec mX0_flipGain 76 = .ok (.invokestatic 115, 3) := by decide +kernel
theorem dX0_flipGain_79 : dec mX0_flipGain 79 = .ok (.invokevirtual 123, 3) := by decide +kernel
theorem dX0_flipGain_82 : dec mX0_flipGain 82 = .ok (.iadd, 1) := by decide +kernel
theorem dX0_flipGain_83 : dec mX0_flipGain 83 = .ok (.aload_n 0, 1) := by decide +kernel
theorem dX0_flipGain_84 : dec mX0_flipGain 84 = .ok (.iload 4, 2) := by decide +kernel
theorem dX0_flipGain_86 : dec mX0_flipGain 86 = .ok (.iload 4, 2) := by decide +kernel
theorem dX0_flipGain_88 : dec mX0_flipGain 88 = .ok (.iload 6, 2) := by decide +kernel
theorem dX0_flipGain_90 : dec mX0_flipGain 90 = .ok (.iadd, 1) := by decide +kernel
theorem dX0_flipGain_91 : dec mX0_flipGain 91 = .ok (.aload_n 0, 1) := by decide +kernel
theorem dX0_flipGain_92 : dec mX0_flipGain 92 = .ok (.getfield 12, 3) := by decide +kernel
theorem dX0_flipGain_95 : dec mX0_flipGain 95 = .ok (.getfield 82, 3) := by decide +kernel
theorem dX0_flipGain_98 : dec mX0_flipGain 98 = .ok (.iload_n 1, 1) := by decide +kernel
theorem dX0_flipGain_99 : dec mX0_flipGain 99 = .ok (.invokestatic 115, 3) := by decide +kernel
theorem dX0_flipGain_102 : dec mX0_flipGain 102 = .ok (.invokevirtual 134, 3) := by decide +kernel
theorem dX0_flipGain_105 : dec mX0_flipGain 105 = .ok (.isub, 1) := by decide +kernel
theorem dX0_flipGain_106 : dec mX0_flipGain 106 = .ok (.aload_n 0, 1) := by decide +kernel
theorem dX0_flipGain_107 : dec mX0_flipGain 107 = .ok (.iload 5, 2) := by decide +kernel
theorem dX0_flipGain_109 : dec mX0_flipGain 109 = .ok (.iload 5, 2) := by decide +kernel
theorem dX0_flipGain_111 : dec mX0_flipGain 111 = .ok (.iload 6, 2) := by decide +kernel
theorem dX0_flipGain_113 : dec mX0_flipGain 113 = .ok (.iadd, 1) := by decide +kernel
theorem dX0_flipGain_114 : dec mX0_flipGain 114 = .ok (.aload_n 0, 1) := by decide +kernel
theorem dX0_flipGain_115 : dec mX0_flipGain 115 = .ok (.getfield 12, 3) := by decide +kernel
theorem dX0_flipGain_118 : dec mX0_flipGain 118 = .ok (.getfield 82, 3) := by decide +kernel
theorem dX0_flipGain_121 : dec mX0_flipGain 121 = .ok (.iload_n 2, 1) := by decide +kernel
theorem dX0_flipGain_122 : dec mX0_flipGain 122 = .ok (.invokestatic 115, 3) := by decide +kernel
theorem dX0_flipGain_125 : dec mX0_flipGain 125 = .ok (.invokevirtual 134, 3) := by decide +kernel
theorem dX0_flipGain_128 : dec mX0_flipGain 128 = .ok (.isub, 1) := by decide +kernel
theorem dX0_flipGain_129 : dec mX0_flipGain 129 = .ok (.ireturn, 1) := by decide +kernel
theorem dX0_flipBlock_0 : dec mX0_flipBlock 0 = .ok (.aload_n 0, 1) := by decide +kernel
theorem dX0_flipBlock_1 : dec mX0_flipBlock 1 = .ok (.iload_n 1, 1) := by decide +kernel
theorem dX0_flipBlock_2 : dec mX0_flipBlock 2 = .ok (.invokevirtual 184, 3) := by decide +kernel
theorem dX0_flipBlock_5 : dec mX0_flipBlock 5 = .ok (.istore_n 2, 1) := by decide +kernel
theorem dX0_flipBlock_6 : dec mX0_flipBlock 6 = .ok (.aload_n 0, 1) := by decide +kernel
theorem dX0_flipBlock_7 : dec mX0_flipBlock 7 = .ok (.iload_n 1, 1) := by decide +kernel
theorem dX0_flipBlock_8 : dec mX0_flipBlock 8 = .ok (.invokevirtual 119, 3) := by decide +kernel
theorem dX0_flipBlock_11 : dec mX0_flipBlock 11 = .ok (.istore_n 3, 1) := by decide +kernel
theorem dX0_flipBlock_12 : dec mX0_flipBlock 12 = .ok (.aload_n 0, 1) := by decide +kernel
theorem dX0_flipBlock_13 : dec mX0_flipBlock 13 = .ok (.getfield 12, 3) := by decide +kernel
theorem dX0_flipBlock_16 : dec mX0_flipBlock 16 = .ok (.getfield 109, 3) := by decide +kernel
theorem dX0_flipBlock_19 : dec mX0_flipBlock 19 = .ok (.iload_n 1, 1) := by decide +kernel
theorem dX0_flipBlock_20 : dec mX0_flipBlock 20 = .ok (.invokestatic 115, 3) := by decide +kernel
theorem dX0_flipBlock_23 : dec mX0_flipBlock 23 = .ok (.istore 4, 2) := by decide +kernel
theorem dX0_flipBlock_25 : dec mX0_flipBlock 25 = .ok (.iload 4, 2) := by decide +kernel
theorem dX0_flipBlock_27 : dec mX0_flipBlock 27 = .ok (.iload_n 3, 1) := by decide +kernel
theorem dX0_flipBlock_28 : dec mX0_flipBlock 28 = .ok (.ifCond .eq 7, 3) := by decide +kernel
theorem dX0_flipBlock_31 : dec mX0_flipBlock 31 = .ok (.iconst 1, 1) := by decide +kernel
theorem dX0_flipBlock_32 : dec mX0_flipBlock 32 = .ok (.goto 7, 3) := by decide +kernel
theorem dX0_flipBlock_35 : dec mX0_flipBlock 35 = .ok (.aload_n 0, 1) := by decide +kernel
theorem dX0_flipBlock_36 : dec mX0_flipBlock 36 = .ok (.getfield 96, 3) := by decide +kernel
theorem dX0_flipBlock_39 : dec mX0_flipBlock 39 = .ok (.iadd, 1) := by decide +kernel
theorem dX0_flipBlock_40 : dec mX0_flipBlock 40 = .ok (.istore 5, 2) := by decide +kernel
theorem dX0_flipBlock_42 : dec mX0_flipBlock 42 = .ok (.iload_n 3, 1) := by decide +kernel
theorem dX0_flipBlock_43 : dec mX0_flipBlock 43 = .ok (.ifCond .eq 10, 3) := by decide +kernel
theorem dX0_flipBlock_46 : dec mX0_flipBlock 46 = .ok (.aload_n 0, 1) := by decide +kernel
theorem dX0_flipBlock_47 : dec mX0_flipBlock 47 = .ok (.getfield 96, 3) := by decide +kernel
theorem dX0_flipBlock_50 : dec mX0_flipBlock 50 = .ok (.goto 4, 3) := by decide +kernel
theorem dX0_flipBlock_53 : dec mX0_flipBlock 53 = .ok (.iconst 1, 1) := by decide +kernel
theorem dX0_flipBlock_54 : dec mX0_flipBlock 54 = .ok (.istore 6, 2) := by decide +kernel
theorem dX0_flipBlock_56 : dec mX0_flipBlock 56 = .ok (.aload_n 0, 1) := by decide +kernel
theorem dX0_flipBlock_57 : dec mX0_flipBlock 57 = .ok (.getfield 12, 3) := by decide +kernel
theorem dX0_flipBlock_60 : dec mX0_flipBlock 60 = .ok (.getfield 112, 3) := by decide +kernel
theorem dX0_flipBlock_63 : dec mX0_flipBlock 63 = .ok (.iload_n 1, 1) := by decide +kernel
theorem dX0_flipBlock_64 : dec mX0_flipBlock 64 = .ok (.iload 4, 2) := by decide +kernel
theorem dX0_flipBlock_66 : dec mX0_flipBlock 66 = .ok (.iload 6, 2) := by decide +kernel
theorem dX0_flipBlock_68 : dec mX0_flipBlock 68 = .ok (.iadd, 1) := by decide +kernel
theorem dX0_flipBlock_69 : dec mX0_flipBlock 69 = .ok (.invokestatic 85, 3) := by decide +kernel
theorem dX0_flipBlock_72 : dec mX0_flipBlock 72 = .ok (.aload_n 0, 1) := by decide +kernel
theorem dX0_flipBlock_73 : dec mX0_flipBlock 73 = .ok (.getfield 12, 3) := by decide +kernel
theorem dX0_flipBlock_76 : dec mX0_flipBlock 76 = .ok (.getfield 109, 3) := by decide +kernel
theorem dX0_flipBlock_79 : dec mX0_flipBlock 79 = .ok (.iload_n 2, 1) := by decide +kernel
theorem dX0_flipBlock_80 : dec mX0_flipBlock 80 = .ok (.iload 5, 2) := by decide +kernel
theorem dX0_flipBlock_82 : dec mX0_flipBlock 82 = .ok (.invokestatic 85, 3) := by decide +kernel
theorem dX0_flipBlock_85 : dec mX0_flipBlock 85 = .ok (.aload_n 0, 1) := by decide +kernel
theorem dX0_flipBlock_86 : dec mX0_flipBlock 86 = .ok (.iload_n 1, 1) := by decide +kernel
theorem dX0_flipBlock_87 : dec mX0_flipBlock 87 = .ok (.invokevirtual 177, 3) := by decide +kernel
theorem dX0_flipBlock_90 : dec mX0_flipBlock 90 = .ok (.aload_n 0, 1) := by decide +kernel
theorem dX0_flipBlock_91 : dec mX0_flipBlock 91 = .ok (.iload_n 2, 1) := by decide +kernel
theorem dX0_flipBlock_92 : dec mX0_flipBlock 92 = .ok (.invokevirtual 177, 3) := by decide +kernel
theorem dX0_flipBlock_95 : dec mX0_flipBlock 95 = .ok (.aload_n 0, 1) := by decide +kernel
theorem dX0_flipBlock_96 : dec mX0_flipBlock 96 = .ok (.iload_n 2, 1) := by decide +kernel
theorem dX0_flipBlock_97 : dec mX0_flipBlock 97 = .ok (.invokevirtual 187, 3) := by decide +kernel
theorem dX0_flipBlock_100 : dec mX0_flipBlock 100 = .ok (.aload_n 0, 1) := by decide +kernel
theorem dX0_flipBlock_101 : dec mX0_flipBlock 101 = .ok (.invokevirtual 89, 3) := by decide +kernel
theorem dX0_flipBlock_104 : dec mX0_flipBlock 104 = .ok (.aload_n 0, 1) := by decide +kernel
theorem dX0_flipBlock_105 : dec mX0_flipBlock 105 = .ok (.getfield 12, 3) := by decide +kernel
theorem dX0_flipBlock_108 : dec mX0_flipBlock 108 = .ok (.dup, 1) := by decide +kernel
theorem dX0_flipBlock_109 : dec mX0_flipBlock 109 = .ok (.getfield 54, 3) := by decide +kernel
theorem dX0_flipBlock_112 : dec mX0_flipBlock 112 = .ok (.iconst 1, 1) := by decide +kernel
theorem dX0_flipBlock_113 : dec mX0_flipBlock 113 = .ok (.iadd, 1) := by decide +kernel
theorem dX0_flipBlock_114 : dec mX0_flipBlock 114 = .ok (.putfield 54, 3) := by decide +kernel
theorem dX0_flipBlock_117 : dec mX0_flipBlock 117 = .ok (.return_, 1) := by decide +kernel
theorem dX0_tryFlip_0 : dec mX0_tryFlip 0 = .ok (.aload_n 0, 1) := by decide +kernel
theorem dX0_tryFlip_1 : dec mX0_tryFlip 1 = .ok (.iload_n 1, 1) := by decide +kernel
theorem dX0_tryFlip_2 : dec mX0_tryFlip 2 = .ok (.iload_n 2, 1) := by decide +kernel
theorem dX0_tryFlip_3 : dec mX0_tryFlip 3 = .ok (.invokevirtual 155, 3) := by decide +kernel
theorem dX0_tryFlip_6 : dec mX0_tryFlip 6 = .ok (.ifCond .eq 16, 3) := by decide +kernel
theorem dX0_tryFlip_9 : dec mX0_tryFlip 9 = .ok (.aload_n 0, 1) := by decide +kernel
theorem dX0_tryFlip_10 : dec mX0_tryFlip 10 = .ok (.aload_n 0, 1) := by decide +kernel
theorem dX0_tryFlip_11 : dec mX0_tryFlip 11 = .ok (.iload_n 1, 1) := by decide +kernel
theorem dX0_tryFlip_12 : dec mX0_tryFlip 12 = .ok (.iload_n 2, 1) := by decide +kernel
theorem dX0_tryFlip_13 : dec mX0_tryFlip 13 = .ok (.invokevirtual 162, 3) := by decide +kernel
theorem dX0_tryFlip_16 : dec mX0_tryFlip 16 = .ok (.invokevirtual 190, 3) := by decide +kernel
theorem dX0_tryFlip_19 : dec mX0_tryFlip 19 = .ok (.goto 4, 3) := by decide +kernel
theorem dX0_tryFlip_22 : dec mX0_tryFlip 22 = .ok (.iconst (-1), 1) := by decide +kernel
theorem dX0_tryFlip_23 : dec mX0_tryFlip 23 = .ok (.istore_n 3, 1) := by decide +kernel
theorem dX0_tryFlip_24 : dec mX0_tryFlip 24 = .ok (.iload_n 3, 1) := by decide +kernel
theorem dX0_tryFlip_25 : dec mX0_tryFlip 25 = .ok (.iconst (-1), 1) := by decide +kernel
theorem dX0_tryFlip_26 : dec mX0_tryFlip 26 = .ok (.if_icmp .eq 11, 3) := by decide +kernel
theorem dX0_tryFlip_29 : dec mX0_tryFlip 29 = .ok (.aload_n 0, 1) := by decide +kernel
theorem dX0_tryFlip_30 : dec mX0_tryFlip 30 = .ok (.iload_n 3, 1) := by decide +kernel
theorem dX0_tryFlip_31 : dec mX0_tryFlip 31 = .ok (.invokevirtual 193, 3) := by decide +kernel
theorem dX0_tryFlip_34 : dec mX0_tryFlip 34 = .ok (.ifCond .ne 5, 3) := by decide +kernel
theorem dX0_tryFlip_37 : dec mX0_tryFlip 37 = .ok (.iconst 0, 1) := by decide +kernel
theorem dX0_tryFlip_38 : dec mX0_tryFlip 38 = .ok (.ireturn, 1) := by decide +kernel
theorem dX0_tryFlip_39 : dec mX0_tryFlip 39 = .ok (.aload_n 0, 1) := by decide +kernel
theorem dX0_tryFlip_40 : dec mX0_tryFlip 40 = .ok (.iload_n 3, 1) := by decide +kernel
theorem dX0_tryFlip_41 : dec mX0_tryFlip 41 = .ok (.invokevirtual 196, 3) := by decide +kernel
theorem dX0_tryFlip_44 : dec mX0_tryFlip 44 = .ok (.iconst 1, 1) := by decide +kernel
theorem dX0_tryFlip_45 : dec mX0_tryFlip 45 = .ok (.ireturn, 1) := by decide +kernel
theorem dX0_numberAnew_0 : dec mX0_numberAnew 0 = .ok (.iload_n 1, 1) := by decide +kernel
theorem dX0_numberAnew_1 : dec mX0_numberAnew 1 = .ok (.istore_n 2, 1) := by decide +kernel
theorem dX0_numberAnew_2 : dec mX0_numberAnew 2 = .ok (.iconst 0, 1) := by decide +kernel
theorem dX0_numberAnew_3 : dec mX0_numberAnew 3 = .ok (.istore_n 3, 1) := by decide +kernel
theorem dX0_numberAnew_4 : dec mX0_numberAnew 4 = .ok (.iload_n 3, 1) := by decide +kernel
theorem dX0_numberAnew_5 : dec mX0_numberAnew 5 = .ok (.bipush 56, 2) := by decide +kernel
theorem dX0_numberAnew_7 : dec mX0_numberAnew 7 = .ok (.if_icmp .ge 51, 3) := by decide +kernel
theorem dX0_numberAnew_10 : dec mX0_numberAnew 10 = .ok (.iload_n 2, 1) := by decide +kernel
theorem dX0_numberAnew_11 : dec mX0_numberAnew 11 = .ok (.ifCond .le 47, 3) := by decide +kernel
theorem dX0_numberAnew_14 : dec mX0_numberAnew 14 = .ok (.aload_n 0, 1) := by decide +kernel
theorem dX0_numberAnew_15 : dec mX0_numberAnew 15 = .ok (.getfield 12, 3) := by decide +kernel
theorem dX0_numberAnew_18 : dec mX0_numberAnew 18 = .ok (.getfield 109, 3) := by decide +kernel
theorem dX0_numberAnew_21 : dec mX0_numberAnew 21 = .ok (.iload_n 2, 1) := by decide +kernel
theorem dX0_numberAnew_22 : dec mX0_numberAnew 22 = .ok (.iconst 1, 1) := by decide +kernel
theorem dX0_numberAnew_23 : dec mX0_numberAnew 23 = .ok (.isub, 1) := by decide +kernel
theorem dX0_numberAnew_24 : dec mX0_numberAnew 24 = .ok (.invokestatic 115, 3) := by decide +kernel
theorem dX0_numberAnew_27 : dec mX0_numberAnew 27 = .ok (.aload_n 0, 1) := by decide +kernel
theorem dX0_numberAnew_28 : dec mX0_numberAnew 28 = .ok (.getfield 12, 3) := by decide +kernel
theorem dX0_numberAnew_31 : dec mX0_numberAnew 31 = .ok (.getfield 109, 3) := by decide +kernel
theorem dX0_numberAnew_34 : dec mX0_numberAnew 34 = .ok (.iload_n 2, 1) := by decide +kernel
theorem dX0_numberAnew_35 : dec mX0_numberAnew 35 = .ok (.invokestatic 115, 3) := by decide +kernel
theorem dX0_numberAnew_38 : dec mX0_numberAnew 38 = .ok (.if_icmp .le 20, 3) := by decide +kernel
theorem dX0_numberAnew_41 : dec mX0_numberAnew 41 = .ok (.aload_n 0, 1) := by decide +kernel
theorem dX0_numberAnew_42 : dec mX0_numberAnew 42 = .ok (.iload_n 2, 1) := by decide +kernel
theorem dX0_numberAnew_43 : dec mX0_numberAnew 43 = .ok (.iconst 1, 1) := by decide +kernel
theorem dX0_numberAnew_44 : dec mX0_numberAnew 44 = .ok (.isub, 1) := by decide +kernel
theorem dX0_numberAnew_45 : dec mX0_numberAnew 45 = .ok (.iload_n 2, 1) := by decide +kernel
theorem dX0_numberAnew_46 : dec mX0_numberAnew 46 = .ok (.invokevirtual 199, 3) := by decide +kernel
theorem dX0_numberAnew_49 : dec mX0_numberAnew 49 = .ok (.iinc 2 (-1), 3) := by decide +kernel
theorem dX0_numberAnew_52 : dec mX0_numberAnew 52 = .ok (.iinc 3 1, 3) := by decide +kernel
theorem dX0_numberAnew_55 : dec mX0_numberAnew 55 = .ok (.goto (-51), 3) := by decide +kernel
theorem dX0_numberAnew_58 : dec mX0_numberAnew 58 = .ok (.iconst 0, 1) := by decide +kernel
theorem dX0_numberAnew_59 : dec mX0_numberAnew 59 = .ok (.istore_n 3, 1) := by decide +kernel
theorem dX0_numberAnew_60 : dec mX0_numberAnew 60 = .ok (.iload_n 3, 1) := by decide +kernel
theorem dX0_numberAnew_61 : dec mX0_numberAnew 61 = .ok (.bipush 56, 2) := by decide +kernel
theorem dX0_numberAnew_63 : dec mX0_numberAnew 63 = .ok (.if_icmp .ge 57, 3) := by decide +kernel
theorem dX0_numberAnew_66 : dec mX0_numberAnew 66 = .ok (.iload_n 2, 1) := by decide +kernel
theorem dX0_numberAnew_67 : dec mX0_numberAnew 67 = .ok (.iconst 1, 1) := by decide +kernel
theorem dX0_numberAnew_68 : dec mX0_numberAnew 68 = .ok (.iadd, 1) := by decide +kernel
theorem dX0_numberAnew_69 : dec mX0_numberAnew 69 = .ok (.aload_n 0, 1) := by decide +kernel
theorem dX0_numberAnew_70 : dec mX0_numberAnew 70 = .ok (.getfield 75, 3) := by decide +kernel
theorem dX0_numberAnew_73 : dec mX0_numberAnew 73 = .ok (.if_icmp .ge 47, 3) := by decide +kernel
theorem dX0_numberAnew_76 : dec mX0_numberAnew 76 = .ok (.aload_n 0, 1) := by decide +kernel
theorem dX0_numberAnew_77 : dec mX0_numberAnew 77 = .ok (.getfield 12, 3) := by decide +kernel
theorem dX0_numberAnew_80 : dec mX0_numberAnew 80 = .ok (.getfield 109, 3) := by decide +kernel
theorem dX0_numberAnew_83 : dec mX0_numberAnew 83 = .ok (.iload_n 2, 1) := by decide +kernel
theorem dX0_numberAnew_84 : dec mX0_numberAnew 84 = .ok (.iconst 1, 1) := by decide +kernel
theorem dX0_numberAnew_85 : dec mX0_numberAnew 85 = .ok (.iadd, 1) := by decide +kernel
theorem dX0_numberAnew_86 : dec mX0_numberAnew 86 = .ok (.invokestatic 115, 3) := by decide +kernel
theorem dX0_numberAnew_89 : dec mX0_numberAnew 89 = .ok (.aload_n 0, 1) := by decide +kernel
theorem dX0_numberAnew_90 : dec mX0_numberAnew 90 = .ok (.getfield 12, 3) := by decide +kernel
theorem dX0_numberAnew_93 : dec mX0_numberAnew 93 = .ok (.getfield 109, 3) := by decide +kernel
theorem dX0_numberAnew_96 : dec mX0_numberAnew 96 = .ok (.iload_n 2, 1) := by decide +kernel
theorem dX0_numberAnew_97 : dec mX0_numberAnew 97 = .ok (.invokestatic 115, 3) := by decide +kernel
theorem dX0_numberAnew_100 : dec mX0_numberAnew 100 = .ok (.if_icmp .ge 20, 3) := by decide +kernel
theorem dX0_numberAnew_103 : dec mX0_numberAnew 103 = .ok (.aload_n 0, 1) := by decide +kernel
theorem dX0_numberAnew_104 : dec mX0_numberAnew 104 = .ok (.iload_n 2, 1) := by decide +kernel
theorem dX0_numberAnew_105 : dec mX0_numberAnew 105 = .ok (.iload_n 2, 1) := by decide +kernel
theorem dX0_numberAnew_106 : dec mX0_numberAnew 106 = .ok (.iconst 1, 1) := by decide +kernel
theorem dX0_numberAnew_107 : dec mX0_numberAnew 107 = .ok (.iadd, 1) := by decide +kernel
theorem dX0_numberAnew_108 : dec mX0_numberAnew 108 = .ok (.invokevirtual 199, 3) := by decide +kernel
theorem dX0_numberAnew_111 : dec mX0_numberAnew 111 = .ok (.iinc 2 1, 3) := by decide +kernel
theorem dX0_numberAnew_114 : dec mX0_numberAnew 114 = .ok (.iinc 3 1, 3) := by decide +kernel
theorem dX0_numberAnew_117 : dec mX0_numberAnew 117 = .ok (.goto (-57), 3) := by decide +kernel
theorem dX0_numberAnew_120 : dec mX0_numberAnew 120 = .ok (.return_, 1) := by decide +kernel
theorem dX0_exchangePlaces_0 : dec mX0_exchangePlaces 0 = .ok (.aload_n 0, 1) := by decide +kernel
theorem dX0_exchangePlaces_1 : dec mX0_exchangePlaces 1 = .ok (.getfield 12, 3) := by decide +kernel
theorem dX0_exchangePlaces_4 : dec mX0_exchangePlaces 4 = .ok (.getfield 109, 3) := by decide +kernel
theorem dX0_exchangePlaces_7 : dec mX0_exchangePlaces 7 = .ok (.iload_n 1, 1) := by decide +kernel
theorem dX0_exchangePlaces_8 : dec mX0_exchangePlaces 8 = .ok (.iload_n 2, 1) := by decide +kernel
theorem dX0_exchangePlaces_9 : dec mX0_exchangePlaces 9 = .ok (.invokestatic 174, 3) := by decide +kernel
theorem dX0_exchangePlaces_12 : dec mX0_exchangePlaces 12 = .ok (.aload_n 0, 1) := by decide +kernel
theorem dX0_exchangePlaces_13 : dec mX0_exchangePlaces 13 = .ok (.getfield 12, 3) := by decide +kernel
theorem dX0_exchangePlaces_16 : dec mX0_exchangePlaces 16 = .ok (.getfield 112, 3) := by decide +kernel
theorem dX0_exchangePlaces_19 : dec mX0_exchangePlaces 19 = .ok (.iload_n 1, 1) := by decide +kernel
theorem dX0_exchangePlaces_20 : dec mX0_exchangePlaces 20 = .ok (.iload_n 2, 1) := by decide +kernel
theorem dX0_exchangePlaces_21 : dec mX0_exchangePlaces 21 = .ok (.invokestatic 174, 3) := by decide +kernel
theorem dX0_exchangePlaces_24 : dec mX0_exchangePlaces 24 = .ok (.aload_n 0, 1) := by decide +kernel
theorem dX0_exchangePlaces_25 : dec mX0_exchangePlaces 25 = .ok (.getfield 12, 3) := by decide +kernel
theorem dX0_exchangePlaces_28 : dec mX0_exchangePlaces 28 = .ok (.getfield 82, 3) := by decide +kernel
theorem dX0_exchangePlaces_31 : dec mX0_exchangePlaces 31 = .ok (.iload_n 1, 1) := by decide +kernel
theorem dX0_exchangePlaces_32 : dec mX0_exchangePlaces 32 = .ok (.iload_n 2, 1) := by decide +kernel
theorem dX0_exchangePlaces_33 : dec mX0_exchangePlaces 33 = .ok (.invokestatic 174, 3) := by decide +kernel
theorem dX0_exchangePlaces_36 : dec mX0_exchangePlaces 36 = .ok (.aload_n 0, 1) := by decide +kernel
theorem dX0_exchangePlaces_37 : dec mX0_exchangePlaces 37 = .ok (.getfield 12, 3) := by decide +kernel
theorem dX0_exchangePlaces_40 : dec mX0_exchangePlaces 40 = .ok (.getfield 66, 3) := by decide +kernel
theorem dX0_exchangePlaces_43 : dec mX0_exchangePlaces 43 = .ok (.iload_n 1, 1) := by decide +kernel
theorem dX0_exchangePlaces_44 : dec mX0_exchangePlaces 44 = .ok (.iload_n 2, 1) := by decide +kernel
theorem dX0_exchangePlaces_45 : dec mX0_exchangePlaces 45 = .ok (.invokestatic 174, 3) := by decide +kernel
theorem dX0_exchangePlaces_48 : dec mX0_exchangePlaces 48 = .ok (.aload_n 0, 1) := by decide +kernel
theorem dX0_exchangePlaces_49 : dec mX0_exchangePlaces 49 = .ok (.getfield 12, 3) := by decide +kernel
theorem dX0_exchangePlaces_52 : dec mX0_exchangePlaces 52 = .ok (.getfield 69, 3) := by decide +kernel
theorem dX0_exchangePlaces_55 : dec mX0_exchangePlaces 55 = .ok (.iload_n 1, 1) := by decide +kernel
theorem dX0_exchangePlaces_56 : dec mX0_exchangePlaces 56 = .ok (.iload_n 2, 1) := by decide +kernel
theorem dX0_exchangePlaces_57 : dec mX0_exchangePlaces 57 = .ok (.invokestatic 174, 3) := by decide +kernel
theorem dX0_exchangePlaces_60 : dec mX0_exchangePlaces 60 = .ok (.return_, 1) := by decide +kernel
theorem dX0_layAnew_0 : dec mX0_layAnew 0 = .ok (.aload_n 0, 1) := by decide +kernel
theorem dX0_layAnew_1 : dec mX0_layAnew 1 = .ok (.getfield 41, 3) := by decide +kernel
theorem dX0_layAnew_4 : dec mX0_layAnew 4 = .ok (.iconst 0, 1) := by decide +kernel
theorem dX0_layAnew_5 : dec mX0_layAnew 5 = .ok (.invokestatic 60, 3) := by decide +kernel
theorem dX0_layAnew_8 : dec mX0_layAnew 8 = .ok (.iconst 0, 1) := by decide +kernel
theorem dX0_layAnew_9 : dec mX0_layAnew 9 = .ok (.istore_n 1, 1) := by decide +kernel
theorem dX0_layAnew_10 : dec mX0_layAnew 10 = .ok (.iload_n 1, 1) := by decide +kernel
theorem dX0_layAnew_11 : dec mX0_layAnew 11 = .ok (.aload_n 0, 1) := by decide +kernel
theorem dX0_layAnew_12 : dec mX0_layAnew 12 = .ok (.getfield 75, 3) := by decide +kernel
theorem dX0_layAnew_15 : dec mX0_layAnew 15 = .ok (.if_icmp .ge 36, 3) := by decide +kernel
theorem dX0_layAnew_18 : dec mX0_layAnew 18 = .ok (.aload_n 0, 1) := by decide +kernel
theorem dX0_layAnew_19 : dec mX0_layAnew 19 = .ok (.iload_n 1, 1) := by decide +kernel
theorem dX0_layAnew_20 : dec mX0_layAnew 20 = .ok (.invokevirtual 168, 3) := by decide +kernel
theorem dX0_layAnew_23 : dec mX0_layAnew 23 = .ok (.ifCond .ne 22, 3) := by decide +kernel
theorem dX0_layAnew_26 : dec mX0_layAnew 26 = .ok (.aload_n 0, 1) := by decide +kernel
theorem dX0_layAnew_27 : dec mX0_layAnew 27 = .ok (.getfield 41, 3) := by decide +kernel
theorem dX0_layAnew_30 : dec mX0_layAnew 30 = .ok (.aload_n 0, 1) := by decide +kernel
theorem dX0_layAnew_31 : dec mX0_layAnew 31 = .ok (.getfield 12, 3) := by decide +kernel
theorem dX0_layAnew_34 : dec mX0_layAnew 34 = .ok (.getfield 82, 3) := by decide +kernel
theorem dX0_layAnew_37 : dec mX0_layAnew 37 = .ok (.iload_n 1, 1) := by decide +kernel
theorem dX0_layAnew_38 : dec mX0_layAnew 38 = .ok (.invokestatic 115, 3) := by decide +kernel
theorem dX0_layAnew_41 : dec mX0_layAnew 41 = .ok (.iconst 1, 1) := by decide +kernel
theorem dX0_layAnew_42 : dec mX0_layAnew 42 = .ok (.invokestatic 85, 3) := by decide +kernel
theorem dX0_layAnew_45 : dec mX0_layAnew 45 = .ok (.iinc 1 1, 3) := by decide +kernel
theorem dX0_layAnew_48 : dec mX0_layAnew 48 = .ok (.goto (-38), 3) := by decide +kernel
theorem dX0_layAnew_51 : dec mX0_layAnew 51 = .ok (.iconst 0, 1) := by decide +kernel
theorem dX0_layAnew_52 : dec mX0_layAnew 52 = .ok (.istore_n 1, 1) := by decide +kernel
theorem dX0_layAnew_53 : dec mX0_layAnew 53 = .ok (.iload_n 1, 1) := by decide +kernel
theorem dX0_layAnew_54 : dec mX0_layAnew 54 = .ok (.aload_n 0, 1) := by decide +kernel
theorem dX0_layAnew_55 : dec mX0_layAnew 55 = .ok (.getfield 75, 3) := by decide +kernel
theorem dX0_layAnew_58 : dec mX0_layAnew 58 = .ok (.if_icmp .ge 22, 3) := by decide +kernel
theorem dX0_layAnew_61 : dec mX0_layAnew 61 = .ok (.aload_n 0, 1) := by decide +kernel
theorem dX0_layAnew_62 : dec mX0_layAnew 62 = .ok (.iload_n 1, 1) := by decide +kernel
theorem dX0_layAnew_63 : dec mX0_layAnew 63 = .ok (.invokevirtual 168, 3) := by decide +kernel
theorem dX0_layAnew_66 : dec mX0_layAnew 66 = .ok (.ifCond .ne 8, 3) := by decide +kernel
theorem dX0_layAnew_69 : dec mX0_layAnew 69 = .ok (.aload_n 0, 1) := by decide +kernel
theorem dX0_layAnew_70 : dec mX0_layAnew 70 = .ok (.iload_n 1, 1) := by decide +kernel
theorem dX0_layAnew_71 : dec mX0_layAnew 71 = .ok (.invokevirtual 202, 3) := by decide +kernel
theorem dX0_layAnew_74 : dec mX0_layAnew 74 = .ok (.iinc 1 1, 3) := by decide +kernel
theorem dX0_layAnew_77 : dec mX0_layAnew 77 = .ok (.goto (-24), 3) := by decide +kernel
theorem dX0_layAnew_80 : dec mX0_layAnew 80 = .ok (.return_, 1) := by decide +kernel
theorem dX0_layBestTile_0 : dec mX0_layBestTile 0 = .ok (.aload_n 0, 1) := by decide +kernel
theorem dX0_layBestTile_1 : dec mX0_layBestTile 1 = .ok (.getfield 12, 3) := by decide +kernel
theorem dX0_layBestTile_4 : dec mX0_layBestTile 4 = .ok (.getfield 57, 3) := by decide +kernel
theorem dX0_layBestTile_7 : dec mX0_layBestTile 7 = .ok (.aload_n 0, 1) := by decide +kernel
theorem dX0_layBestTile_8 : dec mX0_layBestTile 8 = .ok (.getfield 12, 3) := by decide +kernel
theorem dX0_layBestTile_11 : dec mX0_layBestTile 11 = .ok (.getfield 109, 3) := by decide +kernel
theorem dX0_layBestTile_14 : dec mX0_layBestTile 14 = .ok (.iload_n 1, 1) := by decide +kernel
theorem dX0_layBestTile_15 : dec mX0_layBestTile 15 = .ok (.invokestatic 115, 3) := by decide +kernel
theorem dX0_layBestTile_18 : dec mX0_layBestTile 18 = .ok (.invokestatic 115, 3) := by decide +kernel
theorem dX0_layBestTile_21 : dec mX0_layBestTile 21 = .ok (.istore_n 2, 1) := by decide +kernel
theorem dX0_layBestTile_22 : dec mX0_layBestTile 22 = .ok (.aload_n 0, 1) := by decide +kernel
theorem dX0_layBestTile_23 : dec mX0_layBestTile 23 = .ok (.getfield 12, 3) := by decide +kernel
theorem dX0_layBestTile_26 : dec mX0_layBestTile 26 = .ok (.getfield 57, 3) := by decide +kernel
theorem dX0_layBestTile_29 : dec mX0_layBestTile 29 = .ok (.aload_n 0, 1) := by decide +kernel
theorem dX0_layBestTile_30 : dec mX0_layBestTile 30 = .ok (.getfield 12, 3) := by decide +kernel
theorem dX0_layBestTile_33 : dec mX0_layBestTile 33 = .ok (.getfield 112, 3) := by decide +kernel
theorem dX0_layBestTile_36 : dec mX0_layBestTile 36 = .ok (.iload_n 1, 1) := by decide +kernel
theorem dX0_layBestTile_37 : dec mX0_layBestTile 37 = .ok (.invokestatic 115, 3) := by decide +kernel
theorem dX0_layBestTile_40 : dec mX0_layBestTile 40 = .ok (.invokestatic 115, 3) := by decide +kernel
theorem dX0_layBestTile_43 : dec mX0_layBestTile 43 = .ok (.istore_n 3, 1) := by decide +kernel
theorem dX0_layBestTile_44 : dec mX0_layBestTile 44 = .ok (.iconst (-1), 1) := by decide +kernel
theorem dX0_layBestTile_45 : dec mX0_layBestTile 45 = .ok (.istore 4, 2) := by decide +kernel
theorem dX0_layBestTile_47 : dec mX0_layBestTile 47 = .ok (.iconst 0, 1) := by decide +kernel
theorem dX0_layBestTile_48 : dec mX0_layBestTile 48 = .ok (.istore 5, 2) := by decide +kernel
theorem dX0_layBestTile_50 : dec mX0_layBestTile 50 = .ok (.iconst 0, 1) := by decide +kernel
theorem dX0_layBestTile_51 : dec mX0_layBestTile 51 = .ok (.istore 6, 2) := by decide +kernel
theorem dX0_layBestTile_53 : dec mX0_layBestTile 53 = .ok (.iload 6, 2) := by decide +kernel
theorem dX0_layBestTile_55 : dec mX0_layBestTile 55 = .ok (.aload_n 0, 1) := by decide +kernel
theorem dX0_layBestTile_56 : dec mX0_layBestTile 56 = .ok (.getfield 75, 3) := by decide +kernel
theorem dX0_layBestTile_59 : dec mX0_layBestTile 59 = .ok (.if_icmp .ge 67, 3) := by decide +kernel
theorem dX0_layBestTile_62 : dec mX0_layBestTile 62 = .ok (.aload_n 0, 1) := by decide +kernel
theorem dX0_layBestTile_63 : dec mX0_layBestTile 63 = .ok (.getfield 41, 3) := by decide +kernel
theorem dX0_layBestTile_66 : dec mX0_layBestTile 66 = .ok (.iload 6, 2) := by decide +kernel
theorem dX0_layBestTile_68 : dec mX0_layBestTile 68 = .ok (.invokestatic 115, 3) := by decide +kernel
theorem dX0_layBestTile_71 : dec mX0_layBestTile 71 = .ok (.ifCond .eq 49, 3) := by decide +kernel
theorem dX0_layBestTile_74 : dec mX0_layBestTile 74 = .ok (.iload_n 2, 1) := by decide +kernel
theorem dX0_layBestTile_75 : dec mX0_layBestTile 75 = .ok (.iload_n 3, 1) := by decide +kernel
theorem dX0_layBestTile_76 : dec mX0_layBestTile 76 = .ok (.aload_n 0, 1) := by decide +kernel
theorem dX0_layBestTile_77 : dec mX0_layBestTile 77 = .ok (.getfield 25, 3) := by decide +kernel
theorem dX0_layBestTile_80 : dec mX0_layBestTile 80 = .ok (.iload 6, 2) := by decide +kernel
theorem dX0_layBestTile_82 : dec mX0_layBestTile 82 = .ok (.invokestatic 115, 3) := by decide +kernel
theorem dX0_layBestTile_85 : dec mX0_layBestTile 85 = .ok (.aload_n 0, 1) := by decide +kernel
theorem dX0_layBestTile_86 : dec mX0_layBestTile 86 = .ok (.getfield 28, 3) := by decide +kernel
theorem dX0_layBestTile_89 : dec mX0_layBestTile 89 = .ok (.iload 6, 2) := by decide +kernel
theorem dX0_layBestTile_91 : dec mX0_layBestTile 91 = .ok (.invokestatic 115, 3) := by decide +kernel
theorem dX0_layBestTile_94 : dec mX0_layBestTile 94 = .ok (.invokestatic 131, 3) := by decide +kernel
theorem dX0_layBestTile_97 : dec mX0_layBestTile 97 = .ok (.istore 7, 2) := by decide +kernel
theorem dX0_layBestTile_99 : dec mX0_layBestTile 99 = .ok (.iload 4, 2) := by decide +kernel
theorem dX0_layBestTile_101 : dec mX0_layBestTile 101 = .ok (.iconst (-1), 1) := by decide +kernel
theorem dX0_layBestTile_102 : dec mX0_layBestTile 102 = .ok (.if_icmp .eq 10, 3) := by decide +kernel
theorem dX0_layBestTile_105 : dec mX0_layBestTile 105 = .ok (.iload 7, 2) := by decide +kernel
theorem dX0_layBestTile_107 : dec mX0_layBestTile 107 = .ok (.iload 5, 2) := by decide +kernel
theorem dX0_layBestTile_109 : dec mX0_layBestTile 109 = .ok (.if_icmp .ge 11, 3) := by decide +kernel
theorem dX0_layBestTile_112 : dec mX0_layBestTile 112 = .ok (.iload 6, 2) := by decide +kernel
theorem dX0_layBestTile_114 : dec mX0_layBestTile 114 = .ok (.istore 4, 2) := by decide +kernel
theorem dX0_layBestTile_116 : dec mX0_layBestTile 116 = .ok (.iload 7, 2) := by decide +kernel
theorem dX0_layBestTile_118 : dec mX0_layBestTile 118 = .ok (.istore 5, 2) := by decide +kernel
theorem dX0_layBestTile_120 : dec mX0_layBestTile 120 = .ok (.iinc 6 1, 3) := by decide +kernel
theorem dX0_layBestTile_123 : dec mX0_layBestTile 123 = .ok (.goto (-70), 3) := by decide +kernel
theorem dX0_layBestTile_126 : dec mX0_layBestTile 126 = .ok (.iload 4, 2) := by decide +kernel
theorem dX0_layBestTile_128 : dec mX0_layBestTile 128 = .ok (.iconst (-1), 1) := by decide +kernel
theorem dX0_layBestTile_129 : dec mX0_layBestTile 129 = .ok (.if_icmp .eq 31, 3) := by decide +kernel
theorem dX0_layBestTile_132 : dec mX0_layBestTile 132 = .ok (.aload_n 0, 1) := by decide +kernel
theorem dX0_layBestTile_133 : dec mX0_layBestTile 133 = .ok (.getfield 41, 3) := by decide +kernel
theorem dX0_layBestTile_136 : dec mX0_layBestTile 136 = .ok (.iload 4, 2) := by decide +kernel
theorem dX0_layBestTile_138 : dec mX0_layBestTile 138 = .ok (.iconst 0, 1) := by decide +kernel
theorem dX0_layBestTile_139 : dec mX0_layBestTile 139 = .ok (.invokestatic 85, 3) := by decide +kernel
theorem dX0_layBestTile_142 : dec mX0_layBestTile 142 = .ok (.aload_n 0, 1) := by decide +kernel
theorem dX0_layBestTile_143 : dec mX0_layBestTile 143 = .ok (.getfield 12, 3) := by decide +kernel
theorem dX0_layBestTile_146 : dec mX0_layBestTile 146 = .ok (.getfield 82, 3) := by decide +kernel
theorem dX0_layBestTile_149 : dec mX0_layBestTile 149 = .ok (.iload_n 1, 1) := by decide +kernel
theorem dX0_layBestTile_150 : dec mX0_layBestTile 150 = .ok (.iload 4, 2) := by decide +kernel
theorem dX0_layBestTile_152 : dec mX0_layBestTile 152 = .ok (.invokestatic 85, 3) := by decide +kernel
theorem dX0_layBestTile_155 : dec mX0_layBestTile 155 = .ok (.aload_n 0, 1) := by decide +kernel
theorem dX0_layBestTile_156 : dec mX0_layBestTile 156 = .ok (.iload_n 1, 1) := by decide +kernel
theorem dX0_layBestTile_157 : dec mX0_layBestTile 157 = .ok (.invokevirtual 177, 3) := by decide +kernel
theorem dX0_layBestTile_160 : dec mX0_layBestTile 160 = .ok (.return_, 1) := by decide +kernel
theorem dX0_isPossible_0 : dec mX0_isPossible 0 = .ok (.iload_n 1, 1) := by decide +kernel
theorem dX0_isPossible_1 : dec mX0_isPossible 1 = .ok (.ifCond .lt 10, 3) := by decide +kernel
theorem dX0_isPossible_4 : dec mX0_isPossible 4 = .ok (.iload_n 1, 1) := by decide +kernel
theorem dX0_isPossible_5 : dec mX0_isPossible 5 = .ok (.sipush 30000, 3) := by decide +kernel
theorem dX0_isPossible_8 : dec mX0_isPossible 8 = .ok (.if_icmp .lt 5, 3) := by decide +kernel
theorem dX0_isPossible_11 : dec mX0_isPossible 11 = .ok (.iconst 0, 1) := by decide +kernel
theorem dX0_isPossible_12 : dec mX0_isPossible 12 = .ok (.ireturn, 1) := by decide +kernel
theorem dX0_isPossible_13 : dec mX0_isPossible 13 = .ok (.iload_n 1, 1) := by decide +kernel
theorem dX0_isPossible_14 : dec mX0_isPossible 14 = .ok (.sipush 10000, 3) := by decide +kernel
theorem dX0_isPossible_17 : dec mX0_isPossible 17 = .ok (.irem, 1) := by decide +kernel
theorem dX0_isPossible_18 : dec mX0_isPossible 18 = .ok (.istore_n 2, 1) := by decide +kernel
theorem dX0_isPossible_19 : dec mX0_isPossible 19 = .ok (.iload_n 1, 1) := by decide +kernel
theorem dX0_isPossible_20 : dec mX0_isPossible 20 = .ok (.sipush 10000, 3) := by decide +kernel
theorem dX0_isPossible_23 : dec mX0_isPossible 23 = .ok (.if_icmp .ge 9, 3) := by decide +kernel
theorem dX0_isPossible_26 : dec mX0_isPossible 26 = .ok (.aload_n 0, 1) := by decide +kernel
theorem dX0_isPossible_27 : dec mX0_isPossible 27 = .ok (.iload_n 2, 1) := by decide +kernel
theorem dX0_isPossible_28 : dec mX0_isPossible 28 = .ok (.invokevirtual 165, 3) := by decide +kernel
theorem dX0_isPossible_31 : dec mX0_isPossible 31 = .ok (.ireturn, 1) := by decide +kernel
theorem dX0_isPossible_32 : dec mX0_isPossible 32 = .ok (.iload_n 1, 1) := by decide +kernel
theorem dX0_isPossible_33 : dec mX0_isPossible 33 = .ok (.sipush 20000, 3) := by decide +kernel
theorem dX0_isPossible_36 : dec mX0_isPossible 36 = .ok (.if_icmp .ge 31, 3) := by decide +kernel
theorem dX0_isPossible_39 : dec mX0_isPossible 39 = .ok (.iload_n 2, 1) := by decide +kernel
theorem dX0_isPossible_40 : dec mX0_isPossible 40 = .ok (.bipush 100, 2) := by decide +kernel
theorem dX0_isPossible_42 : dec mX0_isPossible 42 = .ok (.idiv, 1) := by decide +kernel
theorem dX0_isPossible_43 : dec mX0_isPossible 43 = .ok (.iload_n 2, 1) := by decide +kernel
theorem dX0_isPossible_44 : dec mX0_isPossible 44 = .ok (.bipush 100, 2) := by decide +kernel
theorem dX0_isPossible_46 : dec mX0_isPossible 46 = .ok (.irem, 1) := by decide +kernel
theorem dX0_isPossible_47 : dec mX0_isPossible 47 = .ok (.if_icmp .ge 18, 3) := by decide +kernel
theorem dX0_isPossible_50 : dec mX0_isPossible 50 = .ok (.aload_n 0, 1) := by decide +kernel
theorem dX0_isPossible_51 : dec mX0_isPossible 51 = .ok (.iload_n 2, 1) := by decide +kernel
theorem dX0_isPossible_52 : dec mX0_isPossible 52 = .ok (.bipush 100, 2) := by decide +kernel
theorem dX0_isPossible_54 : dec mX0_isPossible 54 = .ok (.irem, 1) := by decide +kernel
theorem dX0_isPossible_55 : dec mX0_isPossible 55 = .ok (.invokevirtual 165, 3) := by decide +kernel
theorem dX0_isPossible_58 : dec mX0_isPossible 58 = .ok (.ifCond .eq 7, 3) := by decide +kernel
theorem dX0_isPossible_61 : dec mX0_isPossible 61 = .ok (.iconst 1, 1) := by decide +kernel
theorem dX0_isPossible_62 : dec mX0_isPossible 62 = .ok (.goto 4, 3) := by decide +kernel
theorem dX0_isPossible_65 : dec mX0_isPossible 65 = .ok (.iconst 0, 1) := by decide +kernel
theorem dX0_isPossible_66 : dec mX0_isPossible 66 = .ok (.ireturn, 1) := by decide +kernel
theorem dX0_isPossible_67 : dec mX0_isPossible 67 = .ok (.aload_n 0, 1) := by decide +kernel
theorem dX0_isPossible_68 : dec mX0_isPossible 68 = .ok (.iload_n 2, 1) := by decide +kernel
theorem dX0_isPossible_69 : dec mX0_isPossible 69 = .ok (.invokevirtual 190, 3) := by decide +kernel
theorem dX0_isPossible_72 : dec mX0_isPossible 72 = .ok (.iconst (-1), 1) := by decide +kernel
theorem dX0_isPossible_73 : dec mX0_isPossible 73 = .ok (.if_icmp .eq 7, 3) := by decide +kernel
theorem dX0_isPossible_76 : dec mX0_isPossible 76 = .ok (.iconst 1, 1) := by decide +kernel
theorem dX0_isPossible_77 : dec mX0_isPossible 77 = .ok (.goto 4, 3) := by decide +kernel
theorem dX0_isPossible_80 : dec mX0_isPossible 80 = .ok (.iconst 0, 1) := by decide +kernel
theorem dX0_isPossible_81 : dec mX0_isPossible 81 = .ok (.ireturn, 1) := by decide +kernel
theorem dX0_gainOf_0 : dec mX0_gainOf 0 = .ok (.iload_n 1, 1) := by decide +kernel
theorem dX0_gainOf_1 : dec mX0_gainOf 1 = .ok (.sipush 10000, 3) := by decide +kernel
theorem dX0_gainOf_4 : dec mX0_gainOf 4 = .ok (.irem, 1) := by decide +kernel
theorem dX0_gainOf_5 : dec mX0_gainOf 5 = .ok (.istore_n 2, 1) := by decide +kernel
theorem dX0_gainOf_6 : dec mX0_gainOf 6 = .ok (.iload_n 1, 1) := by decide +kernel
theorem dX0_gainOf_7 : dec mX0_gainOf 7 = .ok (.sipush 10000, 3) := by decide +kernel
theorem dX0_gainOf_10 : dec mX0_gainOf 10 = .ok (.if_icmp .ge 9, 3) := by decide +kernel
theorem dX0_gainOf_13 : dec mX0_gainOf 13 = .ok (.aload_n 0, 1) := by decide +kernel
theorem dX0_gainOf_14 : dec mX0_gainOf 14 = .ok (.iload_n 2, 1) := by decide +kernel
theorem dX0_gainOf_15 : dec mX0_gainOf 15 = .ok (.invokevirtual 205, 3) := by decide +kernel
theorem dX0_gainOf_18 : dec mX0_gainOf 18 = .ok (.ireturn, 1) := by decide +kernel
theorem dX0_gainOf_19 : dec mX0_gainOf 19 = .ok (.iload_n 1, 1) := by decide +kernel
theorem dX0_gainOf_20 : dec mX0_gainOf 20 = .ok (.sipush 20000, 3) := by decide +kernel
theorem dX0_gainOf_23 : dec mX0_gainOf 23 = .ok (.if_icmp .ge 16, 3) := by decide +kernel
theorem dX0_gainOf_26 : dec mX0_gainOf 26 = .ok (.aload_n 0, 1) := by decide +kernel
theorem dX0_gainOf_27 : dec mX0_gainOf 27 = .ok (.iload_n 2, 1) := by decide +kernel
theorem dX0_gainOf_28 : dec mX0_gainOf 28 = .ok (.bipush 100, 2) := by decide +kernel
theorem dX0_gainOf_30 : dec mX0_gainOf 30 = .ok (.idiv, 1) := by decide +kernel
theorem dX0_gainOf_31 : dec mX0_gainOf 31 = .ok (.iload_n 2, 1) := by decide +kernel
theorem dX0_gainOf_32 : dec mX0_gainOf 32 = .ok (.bipush 100, 2) := by decide +kernel
theorem dX0_gainOf_34 : dec mX0_gainOf 34 = .ok (.irem, 1) := by decide +kernel
theorem dX0_gainOf_35 : dec mX0_gainOf 35 = .ok (.invokevirtual 208, 3) := by decide +kernel
theorem dX0_gainOf_38 : dec mX0_gainOf 38 = .ok (.ireturn, 1) := by decide +kernel
theorem dX0_gainOf_39 : dec mX0_gainOf 39 = .ok (.aload_n 0, 1) := by decide +kernel
theorem dX0_gainOf_40 : dec mX0_gainOf 40 = .ok (.getfield 31, 3) := by decide +kernel
theorem dX0_gainOf_43 : dec mX0_gainOf 43 = .ok (.iload_n 2, 1) := by decide +kernel
theorem dX0_gainOf_44 : dec mX0_gainOf 44 = .ok (.invokestatic 115, 3) := by decide +kernel
theorem dX0_gainOf_47 : dec mX0_gainOf 47 = .ok (.istore_n 3, 1) := by decide +kernel
theorem dX0_gainOf_48 : dec mX0_gainOf 48 = .ok (.aload_n 0, 1) := by decide +kernel
theorem dX0_gainOf_49 : dec mX0_gainOf 49 = .ok (.iload_n 3, 1) := by decide +kernel
theorem dX0_gainOf_50 : dec mX0_gainOf 50 = .ok (.aload_n 0, 1) := by decide +kernel
theorem dX0_gainOf_51 : dec mX0_gainOf 51 = .ok (.iload_n 3, 1) := by decide +kernel
theorem dX0_gainOf_52 : dec mX0_gainOf 52 = .ok (.invokevirtual 184, 3) := by decide +kernel
theorem dX0_gainOf_55 : dec mX0_gainOf 55 = .ok (.invokevirtual 211, 3) := by decide +kernel
theorem dX0_gainOf_58 : dec mX0_gainOf 58 = .ok (.ireturn, 1) := by decide +kernel
theorem dX0_doBestChanges_0 : dec mX0_doBestChanges 0 = .ok (.iconst 0, 1) := by decide +kernel
theorem dX0_doBestChanges_1 : dec mX0_doBestChanges 1 = .ok (.istore_n 2, 1) := by decide +kernel
theorem dX0_doBestChanges_2 : dec mX0_doBestChanges 2 = .ok (.iload_n 2, 1) := by decide +kernel
theorem dX0_doBestChanges_3 : dec mX0_doBestChanges 3 = .ok (.iload_n 1, 1) := by decide +kernel
theorem dX0_doBestChanges_4 : dec mX0_doBestChanges 4 = .ok (.if_icmp .ge 101, 3) := by decide +kernel
theorem dX0_doBestChanges_7 : dec mX0_doBestChanges 7 = .ok (.aload_n 0, 1) := by decide +kernel
theorem dX0_doBestChanges_8 : dec mX0_doBestChanges 8 = .ok (.getfield 37, 3) := by decide +kernel
theorem dX0_doBestChanges_11 : dec mX0_doBestChanges 11 = .ok (.aload_n 0, 1) := by decide +kernel
theorem dX0_doBestChanges_12 : dec mX0_doBestChanges 12 = .ok (.invokevirtual 214, 3) := by decide +kernel
theorem dX0_doBestChanges_15 : dec mX0_doBestChanges 15 = .ok (.aload_n 0, 1) := by decide +kernel
theorem dX0_doBestChanges_16 : dec mX0_doBestChanges 16 = .ok (.getfield 37, 3) := by decide +kernel
theorem dX0_doBestChanges_19 : dec mX0_doBestChanges 19 = .ok (.getfield 218, 3) := by decide +kernel
theorem dX0_doBestChanges_22 : dec mX0_doBestChanges 22 = .ok (.ifCond .gt 4, 3) := by decide +kernel
theorem dX0_doBestChanges_25 : dec mX0_doBestChanges 25 = .ok (.return_, 1) := by decide +kernel
theorem dX0_doBestChanges_26 : dec mX0_doBestChanges 26 = .ok (.aload_n 0, 1) := by decide +kernel
theorem dX0_doBestChanges_27 : dec mX0_doBestChanges 27 = .ok (.getfield 37, 3) := by decide +kernel
theorem dX0_doBestChanges_30 : dec mX0_doBestChanges 30 = .ok (.getfield 221, 3) := by decide +kernel
theorem dX0_doBestChanges_33 : dec mX0_doBestChanges 33 = .ok (.sipush 10000, 3) := by decide +kernel
theorem dX0_doBestChanges_36 : dec mX0_doBestChanges 36 = .ok (.irem, 1) := by decide +kernel
theorem dX0_doBestChanges_37 : dec mX0_doBestChanges 37 = .ok (.istore_n 3, 1) := by decide +kernel
theorem dX0_doBestChanges_38 : dec mX0_doBestChanges 38 = .ok (.aload_n 0, 1) := by decide +kernel
theorem dX0_doBestChanges_39 : dec mX0_doBestChanges 39 = .ok (.getfield 37, 3) := by decide +kernel
theorem dX0_doBestChanges_42 : dec mX0_doBestChanges 42 = .ok (.getfield 221, 3) := by decide +kernel
theorem dX0_doBestChanges_45 : dec mX0_doBestChanges 45 = .ok (.sipush 10000, 3) := by decide +kernel
theorem dX0_doBestChanges_48 : dec mX0_doBestChanges 48 = .ok (.if_icmp .ge 11, 3) := by decide +kernel
theorem dX0_doBestChanges_51 : dec mX0_doBestChanges 51 = .ok (.aload_n 0, 1) := by decide +kernel
theorem dX0_doBestChanges_52 : dec mX0_doBestChanges 52 = .ok (.iload_n 3, 1) := by decide +kernel
theorem dX0_doBestChanges_53 : dec mX0_doBestChanges 53 = .ok (.invokevirtual 171, 3) := by decide +kernel
theorem dX0_doBestChanges_56 : dec mX0_doBestChanges 56 = .ok (.goto 43, 3) := by decide +kernel
theorem dX0_doBestChanges_59 : dec mX0_doBestChanges 59 = .ok (.aload_n 0, 1) := by decide +kernel
theorem dX0_doBestChanges_60 : dec mX0_doBestChanges 60 = .ok (.getfield 37, 3) := by decide +kernel
theorem dX0_doBestChanges_63 : dec mX0_doBestChanges 63 = .ok (.getfield 221, 3) := by decide +kernel
theorem dX0_doBestChanges_66 : dec mX0_doBestChanges 66 = .ok (.sipush 20000, 3) := by decide +kernel
theorem dX0_doBestChanges_69 : dec mX0_doBestChanges 69 = .ok (.if_icmp .ge 18, 3) := by decide +kernel
theorem dX0_doBestChanges_72 : dec mX0_doBestChanges 72 = .ok (.aload_n 0, 1) := by decide +kernel
theorem dX0_doBestChanges_73 : dec mX0_doBestChanges 73 = .ok (.iload_n 3, 1) := by decide +kernel
theorem dX0_doBestChanges_74 : dec mX0_doBestChanges 74 = .ok (.bipush 100, 2) := by decide +kernel
theorem dX0_doBestChanges_76 : dec mX0_doBestChanges 76 = .ok (.idiv, 1) := by decide +kernel
theorem dX0_doBestChanges_77 : dec mX0_doBestChanges 77 = .ok (.iload_n 3, 1) := by decide +kernel
theorem dX0_doBestChanges_78 : dec mX0_doBestChanges 78 = .ok (.bipush 100, 2) := by decide +kernel
theorem dX0_doBestChanges_80 : dec mX0_doBestChanges 80 = .ok (.irem, 1) := by decide +kernel
theorem dX0_doBestChanges_81 : dec mX0_doBestChanges 81 = .ok (.invokevirtual 180, 3) := by decide +kernel
theorem dX0_doBestChanges_84 : dec mX0_doBestChanges 84 = .ok (.goto 15, 3) := by decide +kernel
theorem dX0_doBestChanges_87 : dec mX0_doBestChanges 87 = .ok (.aload_n 0, 1) := by decide +kernel
theorem dX0_doBestChanges_88 : dec mX0_doBestChanges 88 = .ok (.aload_n 0, 1) := by decide +kernel
theorem dX0_doBestChanges_89 : dec mX0_doBestChanges 89 = .ok (.getfield 31, 3) := by decide +kernel
theorem dX0_doBestChanges_92 : dec mX0_doBestChanges 92 = .ok (.iload_n 3, 1) := by decide +kernel
theorem dX0_doBestChanges_93 : dec mX0_doBestChanges 93 = .ok (.invokestatic 115, 3) := by decide +kernel
theorem dX0_doBestChanges_96 : dec mX0_doBestChanges 96 = .ok (.invokevirtual 196, 3) := by decide +kernel
theorem dX0_doBestChanges_99 : dec mX0_doBestChanges 99 = .ok (.iinc 2 1, 3) := by decide +kernel
theorem dX0_doBestChanges_102 : dec mX0_doBestChanges 102 = .ok (.goto (-100), 3) := by decide +kernel
theorem dX0_doBestChanges_105 : dec mX0_doBestChanges 105 = .ok (.return_, 1) := by decide +kernel
theorem dX1_doInText_0 : dec mX1_doInText 0 = .ok (.aload_n 1, 1) := by decide +kernel
theorem dX1_doInText_1 : dec mX1_doInText 1 = .ok (.iload_n 2, 1) := by decide +kernel
theorem dX1_doInText_2 : dec mX1_doInText 2 = .ok (.iconst 1, 1) := by decide +kernel
theorem dX1_doInText_3 : dec mX1_doInText 3 = .ok (.iadd, 1) := by decide +kernel
theorem dX1_doInText_4 : dec mX1_doInText 4 = .ok (.invokevirtual 7, 3) := by decide +kernel
theorem dX1_doInText_7 : dec mX1_doInText 7 = .ok (.istore_n 3, 1) := by decide +kernel
theorem dX1_doInText_8 : dec mX1_doInText 8 = .ok (.aload_n 1, 1) := by decide +kernel
theorem dX1_doInText_9 : dec mX1_doInText 9 = .ok (.iload_n 2, 1) := by decide +kernel
theorem dX1_doInText_10 : dec mX1_doInText 10 = .ok (.iconst 2, 1) := by decide +kernel
theorem dX1_doInText_11 : dec mX1_doInText 11 = .ok (.iadd, 1) := by decide +kernel
theorem dX1_doInText_12 : dec mX1_doInText 12 = .ok (.invokevirtual 13, 3) := by decide +kernel
theorem dX1_doInText_15 : dec mX1_doInText 15 = .ok (.istore 4, 2) := by decide +kernel
theorem dX1_doInText_17 : dec mX1_doInText 17 = .ok (.aload_n 1, 1) := by decide +kernel
theorem dX1_doInText_18 : dec mX1_doInText 18 = .ok (.iload_n 2, 1) := by decide +kernel
theorem dX1_doInText_19 : dec mX1_doInText 19 = .ok (.iconst 1, 1) := by decide +kernel
theorem dX1_doInText_20 : dec mX1_doInText 20 = .ok (.iadd, 1) := by decide +kernel
theorem dX1_doInText_21 : dec mX1_doInText 21 = .ok (.invokevirtual 13, 3) := by decide +kernel
theorem dX1_doInText_24 : dec mX1_doInText 24 = .ok (.istore 5, 2) := by decide +kernel
theorem dX1_doInText_26 : dec mX1_doInText 26 = .ok (.aload_n 1, 1) := by decide +kernel
theorem dX1_doInText_27 : dec mX1_doInText 27 = .ok (.iload_n 2, 1) := by decide +kernel
theorem dX1_doInText_28 : dec mX1_doInText 28 = .ok (.iconst 3, 1) := by decide +kernel
theorem dX1_doInText_29 : dec mX1_doInText 29 = .ok (.iadd, 1) := by decide +kernel
theorem dX1_doInText_30 : dec mX1_doInText 30 = .ok (.invokevirtual 13, 3) := by decide +kernel
theorem dX1_doInText_33 : dec mX1_doInText 33 = .ok (.istore 6, 2) := by decide +kernel
theorem dX1_doInText_35 : dec mX1_doInText 35 = .ok (.aload_n 1, 1) := by decide +kernel
theorem dX1_doInText_36 : dec mX1_doInText 36 = .ok (.iload_n 2, 1) := by decide +kernel
theorem dX1_doInText_37 : dec mX1_doInText 37 = .ok (.invokevirtual 16, 3) := by decide +kernel
theorem dX1_doInText_40 : dec mX1_doInText 40 = .ok (.tableswitch 162 98 116 #[123, 162, 162, 162, 138, 162, 131, 154, 162, 162, 148, 162, 162, 162, 92, 162, 162, 114, 107], 92) := by decide +kernel
theorem dX1_doInText_132 : dec mX1_doInText 132 = .ok (.aload_n 0, 1) := by decide +kernel
theorem dX1_doInText_133 : dec mX1_doInText 133 = .ok (.iload_n 3, 1) := by decide +kernel
theorem dX1_doInText_134 : dec mX1_doInText 134 = .ok (.iload 4, 2) := by decide +kernel
theorem dX1_doInText_136 : dec mX1_doInText 136 = .ok (.aload_n 1, 1) := by decide +kernel
theorem dX1_doInText_137 : dec mX1_doInText 137 = .ok (.iload_n 2, 1) := by decide +kernel
theorem dX1_doInText_138 : dec mX1_doInText 138 = .ok (.iconst 4, 1) := by decide +kernel
theorem dX1_doInText_139 : dec mX1_doInText 139 = .ok (.iadd, 1) := by decide +kernel
theorem dX1_doInText_140 : dec mX1_doInText 140 = .ok (.invokevirtual 13, 3) := by decide +kernel
theorem dX1_doInText_143 : dec mX1_doInText 143 = .ok (.invokevirtual 19, 3) := by decide +kernel
theorem dX1_doInText_146 : dec mX1_doInText 146 = .ok (.ireturn, 1) := by decide +kernel
theorem dX1_doInText_147 : dec mX1_doInText 147 = .ok (.aload_n 0, 1) := by decide +kernel
theorem dX1_doInText_148 : dec mX1_doInText 148 = .ok (.iload 5, 2) := by decide +kernel
theorem dX1_doInText_150 : dec mX1_doInText 150 = .ok (.invokevirtual 25, 3) := by decide +kernel
theorem dX1_doInText_153 : dec mX1_doInText 153 = .ok (.ireturn, 1) := by decide +kernel
theorem dX1_doInText_154 : dec mX1_doInText 154 = .ok (.aload_n 0, 1) := by decide +kernel
theorem dX1_doInText_155 : dec mX1_doInText 155 = .ok (.iload 5, 2) := by decide +kernel
theorem dX1_doInText_157 : dec mX1_doInText 157 = .ok (.iload 6, 2) := by decide +kernel
theorem dX1_doInText_159 : dec mX1_doInText 159 = .ok (.invokevirtual 29, 3) := by decide +kernel
theorem dX1_doInText_162 : dec mX1_doInText 162 = .ok (.ireturn, 1) := by decide +kernel
theorem dX1_doInText_163 : dec mX1_doInText 163 = .ok (.aload_n 0, 1) := by decide +kernel
theorem dX1_doInText_164 : dec mX1_doInText 164 = .ok (.iload_n 3, 1) := by decide +kernel
theorem dX1_doInText_165 : dec mX1_doInText 165 = .ok (.iload 4, 2) := by decide +kernel
theorem dX1_doInText_167 : dec mX1_doInText 167 = .ok (.invokevirtual 33, 3) := by decide +kernel
theorem dX1_doInText_170 : dec mX1_doInText 170 = .ok (.ireturn, 1) := by decide +kernel
theorem dX1_doInText_171 : dec mX1_doInText 171 = .ok (.aload_n 0, 1) := by decide +kernel
theorem dX1_doInText_172 : dec mX1_doInText 172 = .ok (.iload 5, 2) := by decide +kernel
theorem dX1_doInText_174 : dec mX1_doInText 174 = .ok (.invokevirtual 36, 3) := by decide +kernel
theorem dX1_doInText_177 : dec mX1_doInText 177 = .ok (.ireturn, 1) := by decide +kernel
theorem dX1_doInText_178 : dec mX1_doInText 178 = .ok (.aload_n 0, 1) := by decide +kernel
theorem dX1_doInText_179 : dec mX1_doInText 179 = .ok (.iload 5, 2) := by decide +kernel
theorem dX1_doInText_181 : dec mX1_doInText 181 = .ok (.iload 6, 2) := by decide +kernel
theorem dX1_doInText_183 : dec mX1_doInText 183 = .ok (.invokevirtual 39, 3) := by decide +kernel
theorem dX1_doInText_186 : dec mX1_doInText 186 = .ok (.iconst 1, 1) := by decide +kernel
theorem dX1_doInText_187 : dec mX1_doInText 187 = .ok (.ireturn, 1) := by decide +kernel
theorem dX1_doInText_188 : dec mX1_doInText 188 = .ok (.aload_n 0, 1) := by decide +kernel
theorem dX1_doInText_189 : dec mX1_doInText 189 = .ok (.invokevirtual 43, 3) := by decide +kernel
theorem dX1_doInText_192 : dec mX1_doInText 192 = .ok (.iconst 1, 1) := by decide +kernel
theorem dX1_doInText_193 : dec mX1_doInText 193 = .ok (.ireturn, 1) := by decide +kernel
theorem dX1_doInText_194 : dec mX1_doInText 194 = .ok (.aload_n 0, 1) := by decide +kernel
theorem dX1_doInText_195 : dec mX1_doInText 195 = .ok (.iload 5, 2) := by decide +kernel
theorem dX1_doInText_197 : dec mX1_doInText 197 = .ok (.invokevirtual 46, 3) := by decide +kernel
theorem dX1_doInText_200 : dec mX1_doInText 200 = .ok (.iconst 1, 1) := by decide +kernel
theorem dX1_doInText_201 : dec mX1_doInText 201 = .ok (.ireturn, 1) := by decide +kernel
theorem dX1_doInText_202 : dec mX1_doInText 202 = .ok (.iconst 0, 1) := by decide +kernel
theorem dX1_doInText_203 : dec mX1_doInText 203 = .ok (.ireturn, 1) := by decide +kernel
theorem dX1_doGroup_0 : dec mX1_doGroup 0 = .ok (.iload_n 1, 1) := by decide +kernel
theorem dX1_doGroup_1 : dec mX1_doGroup 1 = .ok (.ldc 50, 2) := by decide +kernel
theorem dX1_doGroup_3 : dec mX1_doGroup 3 = .ok (.irem, 1) := by decide +kernel
theorem dX1_doGroup_4 : dec mX1_doGroup 4 = .ok (.istore_n 2, 1) := by decide +kernel
theorem dX1_doGroup_5 : dec mX1_doGroup 5 = .ok (.iload_n 2, 1) := by decide +kernel
theorem dX1_doGroup_6 : dec mX1_doGroup 6 = .ok (.sipush 10000, 3) := by decide +kernel
theorem dX1_doGroup_9 : dec mX1_doGroup 9 = .ok (.idiv, 1) := by decide +kernel
theorem dX1_doGroup_10 : dec mX1_doGroup 10 = .ok (.istore_n 3, 1) := by decide +kernel
theorem dX1_doGroup_11 : dec mX1_doGroup 11 = .ok (.iload_n 2, 1) := by decide +kernel
theorem dX1_doGroup_12 : dec mX1_doGroup 12 = .ok (.bipush 100, 2) := by decide +kernel
theorem dX1_doGroup_14 : dec mX1_doGroup 14 = .ok (.idiv, 1) := by decide +kernel
theorem dX1_doGroup_15 : dec mX1_doGroup 15 = .ok (.bipush 100, 2) := by decide +kernel
theorem dX1_doGroup_17 : dec mX1_doGroup 17 = .ok (.irem, 1) := by decide +kernel
theorem dX1_doGroup_18 : dec mX1_doGroup 18 = .ok (.istore 4, 2) := by decide +kernel
theorem dX1_doGroup_20 : dec mX1_doGroup 20 = .ok (.iload_n 2, 1) := by decide +kernel
theorem dX1_doGroup_21 : dec mX1_doGroup 21 = .ok (.sipush 1000, 3) := by decide +kernel
theorem dX1_doGroup_24 : dec mX1_doGroup 24 = .ok (.idiv, 1) := by decide +kernel
theorem dX1_doGroup_25 : dec mX1_doGroup 25 = .ok (.istore 5, 2) := by decide +kernel
theorem dX1_doGroup_27 : dec mX1_doGroup 27 = .ok (.iload_n 2, 1) := by decide +kernel
theorem dX1_doGroup_28 : dec mX1_doGroup 28 = .ok (.bipush 10, 2) := by decide +kernel
theorem dX1_doGroup_30 : dec mX1_doGroup 30 = .ok (.idiv, 1) := by decide +kernel
theorem dX1_doGroup_31 : dec mX1_doGroup 31 = .ok (.bipush 100, 2) := by decide +kernel
theorem dX1_doGroup_33 : dec mX1_doGroup 33 = .ok (.irem, 1) := by decide +kernel
theorem dX1_doGroup_34 : dec mX1_doGroup 34 = .ok (.istore 6, 2) := by decide +kernel
theorem dX1_doGroup_36 : dec mX1_doGroup 36 = .ok (.iload_n 2, 1) := by decide +kernel
theorem dX1_doGroup_37 : dec mX1_doGroup 37 = .ok (.bipush 10, 2) := by decide +kernel
theorem dX1_doGroup_39 : dec mX1_doGroup 39 = .ok (.irem, 1) := by decide +kernel
theorem dX1_doGroup_40 : dec mX1_doGroup 40 = .ok (.istore 7, 2) := by decide +kernel
theorem dX1_doGroup_42 : dec mX1_doGroup 42 = .ok (.iload_n 1, 1) := by decide +kernel
theorem dX1_doGroup_43 : dec mX1_doGroup 43 = .ok (.ldc 50, 2) := by decide +kernel
theorem dX1_doGroup_45 : dec mX1_doGroup 45 = .ok (.idiv, 1) := by decide +kernel
theorem dX1_doGroup_46 : dec mX1_doGroup 46 = .ok (.tableswitch 283 1 9 #[50, 62, 85, 107, 130, 146, 192, 229, 269], 50) := by decide +kernel
theorem dX1_doGroup_96 : dec mX1_doGroup 96 = .ok (.aload_n 0, 1) := by decide +kernel
theorem dX1_doGroup_97 : dec mX1_doGroup 97 = .ok (.iload_n 3, 1) := by decide +kernel
theorem dX1_doGroup_98 : dec mX1_doGroup 98 = .ok (.iload 4, 2) := by decide +kernel
theorem dX1_doGroup_100 : dec mX1_doGroup 100 = .ok (.iload_n 2, 1) := by decide +kernel
theorem dX1_doGroup_101 : dec mX1_doGroup 101 = .ok (.bipush 100, 2) := by decide +kernel
theorem dX1_doGroup_103 : dec mX1_doGroup 103 = .ok (.irem, 1) := by decide +kernel
theorem dX1_doGroup_104 : dec mX1_doGroup 104 = .ok (.invokevirtual 19, 3) := by decide +kernel
theorem dX1_doGroup_107 : dec mX1_doGroup 107 = .ok (.ireturn, 1) := by decide +kernel
theorem dX1_doGroup_108 : dec mX1_doGroup 108 = .ok (.iload_n 2, 1) := by decide +kernel
theorem dX1_doGroup_109 : dec mX1_doGroup 109 = .ok (.sipush 1000, 3) := by decide +kernel
theorem dX1_doGroup_112 : dec mX1_doGroup 112 = .ok (.irem, 1) := by decide +kernel
theorem dX1_doGroup_113 : dec mX1_doGroup 113 = .ok (.ifCond .ne 16, 3) := by decide +kernel
theorem dX1_doGroup_116 : dec mX1_doGroup 116 = .ok (.aload_n 0, 1) := by decide +kernel
theorem dX1_doGroup_117 : dec mX1_doGroup 117 = .ok (.iload 5, 2) := by decide +kernel
theorem dX1_doGroup_119 : dec mX1_doGroup 119 = .ok (.invokevirtual 25, 3) := by decide +kernel
theorem dX1_doGroup_122 : dec mX1_doGroup 122 = .ok (.ifCond .eq 7, 3) := by decide +kernel
theorem dX1_doGroup_125 : dec mX1_doGroup 125 = .ok (.iconst 1, 1) := by decide +kernel
theorem dX1_doGroup_126 : dec mX1_doGroup 126 = .ok (.goto 4, 3) := by decide +kernel
theorem dX1_doGroup_129 : dec mX1_doGroup 129 = .ok (.iconst 0, 1) := by decide +kernel
theorem dX1_doGroup_130 : dec mX1_doGroup 130 = .ok (.ireturn, 1) := by decide +kernel
theorem dX1_doGroup_131 : dec mX1_doGroup 131 = .ok (.iload 7, 2) := by decide +kernel
theorem dX1_doGroup_133 : dec mX1_doGroup 133 = .ok (.ifCond .ne 18, 3) := by decide +kernel
theorem dX1_doGroup_136 : dec mX1_doGroup 136 = .ok (.aload_n 0, 1) := by decide +kernel
theorem dX1_doGroup_137 : dec mX1_doGroup 137 = .ok (.iload 5, 2) := by decide +kernel
theorem dX1_doGroup_139 : dec mX1_doGroup 139 = .ok (.iload 6, 2) := by decide +kernel
theorem dX1_doGroup_141 : dec mX1_doGroup 141 = .ok (.invokevirtual 29, 3) := by decide +kernel
theorem dX1_doGroup_144 : dec mX1_doGroup 144 = .ok (.ifCond .eq 7, 3) := by decide +kernel
theorem dX1_doGroup_147 : dec mX1_doGroup 147 = .ok (.iconst 1, 1) := by decide +kernel
theorem dX1_doGroup_148 : dec mX1_doGroup 148 = .ok (.goto 4, 3) := by decide +kernel
theorem dX1_doGroup_151 : dec mX1_doGroup 151 = .ok (.iconst 0, 1) := by decide +kernel
theorem dX1_doGroup_152 : dec mX1_doGroup 152 = .ok (.ireturn, 1) := by decide +kernel
theorem dX1_doGroup_153 : dec mX1_doGroup 153 = .ok (.iload_n 2, 1) := by decide +kernel
theorem dX1_doGroup_154 : dec mX1_doGroup 154 = .ok (.bipush 100, 2) := by decide +kernel
theorem dX1_doGroup_156 : dec mX1_doGroup 156 = .ok (.irem, 1) := by decide +kernel
theorem dX1_doGroup_157 : dec mX1_doGroup 157 = .ok (.ifCond .ne 17, 3) := by decide +kernel
theorem dX1_doGroup_160 : dec mX1_doGroup 160 = .ok (.aload_n 0, 1) := by decide +kernel
theorem dX1_doGroup_161 : dec mX1_doGroup 161 = .ok (.iload_n 3, 1) := by decide +kernel
theorem dX1_doGroup_162 : dec mX1_doGroup 162 = .ok (.iload 4, 2) := by decide +kernel
theorem dX1_doGroup_164 : dec mX1_doGroup 164 = .ok (.invokevirtual 33, 3) := by decide +kernel
theorem dX1_doGroup_167 : dec mX1_doGroup 167 = .ok (.ifCond .eq 7, 3) := by decide +kernel
theorem dX1_doGroup_170 : dec mX1_doGroup 170 = .ok (.iconst 1, 1) := by decide +kernel
theorem dX1_doGroup_171 : dec mX1_doGroup 171 = .ok (.goto 4, 3) := by decide +kernel
theorem dX1_doGroup_174 : dec mX1_doGroup 174 = .ok (.iconst 0, 1) := by decide +kernel
theorem dX1_doGroup_175 : dec mX1_doGroup 175 = .ok (.ireturn, 1) := by decide +kernel
theorem dX1_doGroup_176 : dec mX1_doGroup 176 = .ok (.iload_n 2, 1) := by decide +kernel
theorem dX1_doGroup_177 : dec mX1_doGroup 177 = .ok (.invokestatic 51, 3) := by decide +kernel
theorem dX1_doGroup_180 : dec mX1_doGroup 180 = .ok (.ifCond .ne 5, 3) := by decide +kernel
theorem dX1_doGroup_183 : dec mX1_doGroup 183 = .ok (.iconst 0, 1) := by decide +kernel
theorem dX1_doGroup_184 : dec mX1_doGroup 184 = .ok (.ireturn, 1) := by decide +kernel
theorem dX1_doGroup_185 : dec mX1_doGroup 185 = .ok (.aload_n 0, 1) := by decide +kernel
theorem dX1_doGroup_186 : dec mX1_doGroup 186 = .ok (.iload_n 2, 1) := by decide +kernel
theorem dX1_doGroup_187 : dec mX1_doGroup 187 = .ok (.invokevirtual 46, 3) := by decide +kernel
theorem dX1_doGroup_190 : dec mX1_doGroup 190 = .ok (.iconst 1, 1) := by decide +kernel
theorem dX1_doGroup_191 : dec mX1_doGroup 191 = .ok (.ireturn, 1) := by decide +kernel
theorem dX1_doGroup_192 : dec mX1_doGroup 192 = .ok (.iload 7, 2) := by decide +kernel
theorem dX1_doGroup_194 : dec mX1_doGroup 194 = .ok (.ifCond .ne 42, 3) := by decide +kernel
theorem dX1_doGroup_197 : dec mX1_doGroup 197 = .ok (.aload_n 0, 1) := by decide +kernel
theorem dX1_doGroup_198 : dec mX1_doGroup 198 = .ok (.iload 5, 2) := by decide +kernel
theorem dX1_doGroup_200 : dec mX1_doGroup 200 = .ok (.invokevirtual 56, 3) := by decide +kernel
theorem dX1_doGroup_203 : dec mX1_doGroup 203 = .ok (.ifCond .eq 33, 3) := by decide +kernel
theorem dX1_doGroup_206 : dec mX1_doGroup 206 = .ok (.aload_n 0, 1) := by decide +kernel
theorem dX1_doGroup_207 : dec mX1_doGroup 207 = .ok (.iload 6, 2) := by decide +kernel
theorem dX1_doGroup_209 : dec mX1_doGroup 209 = .ok (.invokevirtual 59, 3) := by decide +kernel
theorem dX1_doGroup_212 : dec mX1_doGroup 212 = .ok (.ifCond .eq 24, 3) := by decide +kernel
theorem dX1_doGroup_215 : dec mX1_doGroup 215 = .ok (.aload_n 0, 1) := by decide +kernel
theorem dX1_doGroup_216 : dec mX1_doGroup 216 = .ok (.getfield 62, 3) := by decide +kernel
theorem dX1_doGroup_219 : dec mX1_doGroup 219 = .ok (.getfield 66, 3) := by decide +kernel
theorem dX1_doGroup_222 : dec mX1_doGroup 222 = .ok (.iload 5, 2) := by decide +kernel
theorem dX1_doGroup_224 : dec mX1_doGroup 224 = .ok (.invokestatic 72, 3) := by decide +kernel
theorem dX1_doGroup_227 : dec mX1_doGroup 227 = .ok (.iload 6, 2) := by decide +kernel
theorem dX1_doGroup_229 : dec mX1_doGroup 229 = .ok (.if_icmp .ne 7, 3) := by decide +kernel
theorem dX1_doGroup_232 : dec mX1_doGroup 232 = .ok (.iconst 1, 1) := by decide +kernel
theorem dX1_doGroup_233 : dec mX1_doGroup 233 = .ok (.goto 4, 3) := by decide +kernel
theorem dX1_doGroup_236 : dec mX1_doGroup 236 = .ok (.iconst 0, 1) := by decide +kernel
theorem dX1_doGroup_237 : dec mX1_doGroup 237 = .ok (.ireturn, 1) := by decide +kernel
theorem dX1_doGroup_238 : dec mX1_doGroup 238 = .ok (.iload 6, 2) := by decide +kernel
theorem dX1_doGroup_240 : dec mX1_doGroup 240 = .ok (.ifCond .ne 33, 3) := by decide +kernel
theorem dX1_doGroup_243 : dec mX1_doGroup 243 = .ok (.aload_n 0, 1) := by decide +kernel
theorem dX1_doGroup_244 : dec mX1_doGroup 244 = .ok (.iload 5, 2) := by decide +kernel
theorem dX1_doGroup_246 : dec mX1_doGroup 246 = .ok (.invokevirtual 56, 3) := by decide +kernel
theorem dX1_doGroup_249 : dec mX1_doGroup 249 = .ok (.ifCond .eq 24, 3) := by decide +kernel
theorem dX1_doGroup_252 : dec mX1_doGroup 252 = .ok (.aload_n 0, 1) := by decide +kernel
theorem dX1_doGroup_253 : dec mX1_doGroup 253 = .ok (.getfield 62, 3) := by decide +kernel
theorem dX1_doGroup_256 : dec mX1_doGroup 256 = .ok (.getfield 76, 3) := by decide +kernel
theorem dX1_doGroup_259 : dec mX1_doGroup 259 = .ok (.iload 5, 2) := by decide +kernel
theorem dX1_doGroup_261 : dec mX1_doGroup 261 = .ok (.invokestatic 72, 3) := by decide +kernel
theorem dX1_doGroup_264 : dec mX1_doGroup 264 = .ok (.iload 7, 2) := by decide +kernel
theorem dX1_doGroup_266 : dec mX1_doGroup 266 = .ok (.if_icmp .ne 7, 3) := by decide +kernel
theorem dX1_doGroup_269 : dec mX1_doGroup 269 = .ok (.iconst 1, 1) := by decide +kernel
theorem dX1_doGroup_270 : dec mX1_doGroup 270 = .ok (.goto 4, 3) := by decide +kernel
theorem dX1_doGroup_273 : dec mX1_doGroup 273 = .ok (.iconst 0, 1) := by decide +kernel
theorem dX1_doGroup_274 : dec mX1_doGroup 274 = .ok (.ireturn, 1) := by decide +kernel
theorem dX1_doGroup_275 : dec mX1_doGroup 275 = .ok (.iload 7, 2) := by decide +kernel
theorem dX1_doGroup_277 : dec mX1_doGroup 277 = .ok (.ifCond .ne 36, 3) := by decide +kernel
theorem dX1_doGroup_280 : dec mX1_doGroup 280 = .ok (.aload_n 0, 1) := by decide +kernel
theorem dX1_doGroup_281 : dec mX1_doGroup 281 = .ok (.iload_n 3, 1) := by decide +kernel
theorem dX1_doGroup_282 : dec mX1_doGroup 282 = .ok (.iload 4, 2) := by decide +kernel
theorem dX1_doGroup_284 : dec mX1_doGroup 284 = .ok (.invokevirtual 79, 3) := by decide +kernel
theorem dX1_doGroup_287 : dec mX1_doGroup 287 = .ok (.ifCond .eq 26, 3) := by decide +kernel
theorem dX1_doGroup_290 : dec mX1_doGroup 290 = .ok (.aload_n 0, 1) := by decide +kernel
theorem dX1_doGroup_291 : dec mX1_doGroup 291 = .ok (.aload_n 0, 1) := by decide +kernel
theorem dX1_doGroup_292 : dec mX1_doGroup 292 = .ok (.iload_n 3, 1) := by decide +kernel
theorem dX1_doGroup_293 : dec mX1_doGroup 293 = .ok (.iload 4, 2) := by decide +kernel
theorem dX1_doGroup_295 : dec mX1_doGroup 295 = .ok (.invokevirtual 82, 3) := by decide +kernel
theorem dX1_doGroup_298 : dec mX1_doGroup 298 = .ok (.invokevirtual 86, 3) := by decide +kernel
theorem dX1_doGroup_301 : dec mX1_doGroup 301 = .ok (.iload 6, 2) := by decide +kernel
theorem dX1_doGroup_303 : dec mX1_doGroup 303 = .ok (.bipush 10, 2) := by decide +kernel
theorem dX1_doGroup_305 : dec mX1_doGroup 305 = .ok (.irem, 1) := by decide +kernel
theorem dX1_doGroup_306 : dec mX1_doGroup 306 = .ok (.if_icmp .ne 7, 3) := by decide +kernel
theorem dX1_doGroup_309 : dec mX1_doGroup 309 = .ok (.iconst 1, 1) := by decide +kernel
theorem dX1_doGroup_310 : dec mX1_doGroup 310 = .ok (.goto 4, 3) := by decide +kernel
theorem dX1_doGroup_313 : dec mX1_doGroup 313 = .ok (.iconst 0, 1) := by decide +kernel
theorem dX1_doGroup_314 : dec mX1_doGroup 314 = .ok (.ireturn, 1) := by decide +kernel
theorem dX1_doGroup_315 : dec mX1_doGroup 315 = .ok (.aload_n 0, 1) := by decide +kernel
theorem dX1_doGroup_316 : dec mX1_doGroup 316 = .ok (.invokevirtual 89, 3) := by decide +kernel
theorem dX1_doGroup_319 : dec mX1_doGroup 319 = .ok (.iload_n 2, 1) := by decide +kernel
theorem dX1_doGroup_320 : dec mX1_doGroup 320 = .ok (.if_icmp .gt 7, 3) := by decide +kernel
theorem dX1_doGroup_323 : dec mX1_doGroup 323 = .ok (.iconst 1, 1) := by decide +kernel
theorem dX1_doGroup_324 : dec mX1_doGroup 324 = .ok (.goto 4, 3) := by decide +kernel
theorem dX1_doGroup_327 : dec mX1_doGroup 327 = .ok (.iconst 0, 1) := by decide +kernel
theorem dX1_doGroup_328 : dec mX1_doGroup 328 = .ok (.ireturn, 1) := by decide +kernel
theorem dX1_doGroup_329 : dec mX1_doGroup 329 = .ok (.iconst 0, 1) := by decide +kernel
theorem dX1_doGroup_330 : dec mX1_doGroup 330 = .ok (.ireturn, 1) := by decide +kernel
theorem dX1_doTurn_0 : dec mX1_doTurn 0 = .ok (.iload_n 1, 1) := by decide +kernel
theorem dX1_doTurn_1 : dec mX1_doTurn 1 = .ok (.bipush 8, 2) := by decide +kernel
theorem dX1_doTurn_3 : dec mX1_doTurn 3 = .ok (.idiv, 1) := by decide +kernel
theorem dX1_doTurn_4 : dec mX1_doTurn 4 = .ok (.istore_n 2, 1) := by decide +kernel
theorem dX1_doTurn_5 : dec mX1_doTurn 5 = .ok (.iload_n 1, 1) := by decide +kernel
theorem dX1_doTurn_6 : dec mX1_doTurn 6 = .ok (.bipush 8, 2) := by decide +kernel
theorem dX1_doTurn_8 : dec mX1_doTurn 8 = .ok (.irem, 1) := by decide +kernel
theorem dX1_doTurn_9 : dec mX1_doTurn 9 = .ok (.tableswitch 152 0 6 #[43, 43, 70, 82, 82, 101, 120], 43) := by decide +kernel
theorem dX1_doTurn_52 : dec mX1_doTurn 52 = .ok (.aload_n 0, 1) := by decide +kernel
theorem dX1_doTurn_53 : dec mX1_doTurn 53 = .ok (.iload_n 2, 1) := by decide +kernel
theorem dX1_doTurn_54 : dec mX1_doTurn 54 = .ok (.bipush 8, 2) := by decide +kernel
theorem dX1_doTurn_56 : dec mX1_doTurn 56 = .ok (.irem, 1) := by decide +kernel
theorem dX1_doTurn_57 : dec mX1_doTurn 57 = .ok (.iload_n 2, 1) := by decide +kernel
theorem dX1_doTurn_58 : dec mX1_doTurn 58 = .ok (.bipush 8, 2) := by decide +kernel
theorem dX1_doTurn_60 : dec mX1_doTurn 60 = .ok (.idiv, 1) := by decide +kernel
theorem dX1_doTurn_61 : dec mX1_doTurn 61 = .ok (.bipush 14, 2) := by decide +kernel
theorem dX1_doTurn_63 : dec mX1_doTurn 63 = .ok (.irem, 1) := by decide +kernel
theorem dX1_doTurn_64 : dec mX1_doTurn 64 = .ok (.iload_n 2, 1) := by decide +kernel
theorem dX1_doTurn_65 : dec mX1_doTurn 65 = .ok (.sipush 128, 3) := by decide +kernel
theorem dX1_doTurn_68 : dec mX1_doTurn 68 = .ok (.idiv, 1) := by decide +kernel
theorem dX1_doTurn_69 : dec mX1_doTurn 69 = .ok (.bipush 100, 2) := by decide +kernel
theorem dX1_doTurn_71 : dec mX1_doTurn 71 = .ok (.irem, 1) := by decide +kernel
theorem dX1_doTurn_72 : dec mX1_doTurn 72 = .ok (.invokevirtual 19, 3) := by decide +kernel
theorem dX1_doTurn_75 : dec mX1_doTurn 75 = .ok (.pop, 1) := by decide +kernel
theorem dX1_doTurn_76 : dec mX1_doTurn 76 = .ok (.goto 94, 3) := by decide +kernel
theorem dX1_doTurn_79 : dec mX1_doTurn 79 = .ok (.aload_n 0, 1) := by decide +kernel
theorem dX1_doTurn_80 : dec mX1_doTurn 80 = .ok (.iload_n 2, 1) := by decide +kernel
theorem dX1_doTurn_81 : dec mX1_doTurn 81 = .ok (.bipush 56, 2) := by decide +kernel
theorem dX1_doTurn_83 : dec mX1_doTurn 83 = .ok (.irem, 1) := by decide +kernel
theorem dX1_doTurn_84 : dec mX1_doTurn 84 = .ok (.invokevirtual 25, 3) := by decide +kernel
theorem dX1_doTurn_87 : dec mX1_doTurn 87 = .ok (.pop, 1) := by decide +kernel
theorem dX1_doTurn_88 : dec mX1_doTurn 88 = .ok (.goto 82, 3) := by decide +kernel
theorem dX1_doTurn_91 : dec mX1_doTurn 91 = .ok (.aload_n 0, 1) := by decide +kernel
theorem dX1_doTurn_92 : dec mX1_doTurn 92 = .ok (.iload_n 2, 1) := by decide +kernel
theorem dX1_doTurn_93 : dec mX1_doTurn 93 = .ok (.bipush 56, 2) := by decide +kernel
theorem dX1_doTurn_95 : dec mX1_doTurn 95 = .ok (.irem, 1) := by decide +kernel
theorem dX1_doTurn_96 : dec mX1_doTurn 96 = .ok (.iload_n 2, 1) := by decide +kernel
theorem dX1_doTurn_97 : dec mX1_doTurn 97 = .ok (.bipush 64, 2) := by decide +kernel
theorem dX1_doTurn_99 : dec mX1_doTurn 99 = .ok (.idiv, 1) := by decide +kernel
theorem dX1_doTurn_100 : dec mX1_doTurn 100 = .ok (.bipush 56, 2) := by decide +kernel
theorem dX1_doTurn_102 : dec mX1_doTurn 102 = .ok (.irem, 1) := by decide +kernel
theorem dX1_doTurn_103 : dec mX1_doTurn 103 = .ok (.invokevirtual 29, 3) := by decide +kernel
theorem dX1_doTurn_106 : dec mX1_doTurn 106 = .ok (.pop, 1) := by decide +kernel
theorem dX1_doTurn_107 : dec mX1_doTurn 107 = .ok (.goto 63, 3) := by decide +kernel
theorem dX1_doTurn_110 : dec mX1_doTurn 110 = .ok (.aload_n 0, 1) := by decide +kernel
theorem dX1_doTurn_111 : dec mX1_doTurn 111 = .ok (.iload_n 2, 1) := by decide +kernel
theorem dX1_doTurn_112 : dec mX1_doTurn 112 = .ok (.bipush 8, 2) := by decide +kernel
theorem dX1_doTurn_114 : dec mX1_doTurn 114 = .ok (.irem, 1) := by decide +kernel
theorem dX1_doTurn_115 : dec mX1_doTurn 115 = .ok (.iload_n 2, 1) := by decide +kernel
theorem dX1_doTurn_116 : dec mX1_doTurn 116 = .ok (.bipush 8, 2) := by decide +kernel
theorem dX1_doTurn_118 : dec mX1_doTurn 118 = .ok (.idiv, 1) := by decide +kernel
theorem dX1_doTurn_119 : dec mX1_doTurn 119 = .ok (.bipush 14, 2) := by decide +kernel
theorem dX1_doTurn_121 : dec mX1_doTurn 121 = .ok (.irem, 1) := by decide +kernel
theorem dX1_doTurn_122 : dec mX1_doTurn 122 = .ok (.invokevirtual 33, 3) := by decide +kernel
theorem dX1_doTurn_125 : dec mX1_doTurn 125 = .ok (.pop, 1) := by decide +kernel
theorem dX1_doTurn_126 : dec mX1_doTurn 126 = .ok (.goto 44, 3) := by decide +kernel
theorem dX1_doTurn_129 : dec mX1_doTurn 129 = .ok (.iload_n 2, 1) := by decide +kernel
theorem dX1_doTurn_130 : dec mX1_doTurn 130 = .ok (.iconst 4, 1) := by decide +kernel
theorem dX1_doTurn_131 : dec mX1_doTurn 131 = .ok (.irem, 1) := by decide +kernel
theorem dX1_doTurn_132 : dec mX1_doTurn 132 = .ok (.ifCond .ne 22, 3) := by decide +kernel
theorem dX1_doTurn_135 : dec mX1_doTurn 135 = .ok (.aload_n 0, 1) := by decide +kernel
theorem dX1_doTurn_136 : dec mX1_doTurn 136 = .ok (.iload_n 2, 1) := by decide +kernel
theorem dX1_doTurn_137 : dec mX1_doTurn 137 = .ok (.bipush 100, 2) := by decide +kernel
theorem dX1_doTurn_139 : dec mX1_doTurn 139 = .ok (.irem, 1) := by decide +kernel
theorem dX1_doTurn_140 : dec mX1_doTurn 140 = .ok (.iload_n 2, 1) := by decide +kernel
theorem dX1_doTurn_141 : dec mX1_doTurn 141 = .ok (.sipush 128, 3) := by decide +kernel
theorem dX1_doTurn_144 : dec mX1_doTurn 144 = .ok (.idiv, 1) := by decide +kernel
theorem dX1_doTurn_145 : dec mX1_doTurn 145 = .ok (.bipush 100, 2) := by decide +kernel
theorem dX1_doTurn_147 : dec mX1_doTurn 147 = .ok (.irem, 1) := by decide +kernel
theorem dX1_doTurn_148 : dec mX1_doTurn 148 = .ok (.invokevirtual 39, 3) := by decide +kernel
theorem dX1_doTurn_151 : dec mX1_doTurn 151 = .ok (.goto 19, 3) := by decide +kernel
theorem dX1_doTurn_154 : dec mX1_doTurn 154 = .ok (.aload_n 0, 1) := by decide +kernel
theorem dX1_doTurn_155 : dec mX1_doTurn 155 = .ok (.invokevirtual 43, 3) := by decide +kernel
theorem dX1_doTurn_158 : dec mX1_doTurn 158 = .ok (.goto 12, 3) := by decide +kernel
theorem dX1_doTurn_161 : dec mX1_doTurn 161 = .ok (.aload_n 0, 1) := by decide +kernel
theorem dX1_doTurn_162 : dec mX1_doTurn 162 = .ok (.iconst 1, 1) := by decide +kernel
theorem dX1_doTurn_163 : dec mX1_doTurn 163 = .ok (.iload_n 2, 1) := by decide +kernel
theorem dX1_doTurn_164 : dec mX1_doTurn 164 = .ok (.iconst 4, 1) := by decide +kernel
theorem dX1_doTurn_165 : dec mX1_doTurn 165 = .ok (.irem, 1) := by decide +kernel
theorem dX1_doTurn_166 : dec mX1_doTurn 166 = .ok (.iadd, 1) := by decide +kernel
theorem dX1_doTurn_167 : dec mX1_doTurn 167 = .ok (.invokevirtual 46, 3) := by decide +kernel
theorem dX1_doTurn_170 : dec mX1_doTurn 170 = .ok (.return_, 1) := by decide +kernel
theorem dX2_init_0 : dec mX2_init 0 = .ok (.aload_n 0, 1) := by decide +kernel
theorem dX2_init_1 : dec mX2_init 1 = .ok (.invokespecial 3, 3) := by decide +kernel
theorem dX2_init_4 : dec mX2_init 4 = .ok (.aload_n 0, 1) := by decide +kernel
theorem dX2_init_5 : dec mX2_init 5 = .ok (.bipush 14, 2) := by decide +kernel
theorem dX2_init_7 : dec mX2_init 7 = .ok (.anewarray 9, 3) := by decide +kernel
theorem dX2_init_10 : dec mX2_init 10 = .ok (.putfield 11, 3) := by decide +kernel
theorem dX2_init_13 : dec mX2_init 13 = .ok (.iconst 0, 1) := by decide +kernel
theorem dX2_init_14 : dec mX2_init 14 = .ok (.istore_n 1, 1) := by decide +kernel
theorem dX2_init_15 : dec mX2_init 15 = .ok (.iload_n 1, 1) := by decide +kernel
theorem dX2_init_16 : dec mX2_init 16 = .ok (.bipush 14, 2) := by decide +kernel
theorem dX2_init_18 : dec mX2_init 18 = .ok (.if_icmp .ge 22, 3) := by decide +kernel
theorem dX2_init_21 : dec mX2_init 21 = .ok (.aload_n 0, 1) := by decide +kernel
theorem dX2_init_22 : dec mX2_init 22 = .ok (.getfield 11, 3) := by decide +kernel
theorem dX2_init_25 : dec mX2_init 25 = .ok (.iload_n 1, 1) := by decide +kernel
theorem dX2_init_26 : dec mX2_init 26 = .ok (.new 9, 3) := by decide +kernel
theorem dX2_init_29 : dec mX2_init 29 = .ok (.dup, 1) := by decide +kernel
theorem dX2_init_30 : dec mX2_init 30 = .ok (.invokespecial 17, 3) := by decide +kernel
theorem dX2_init_33 : dec mX2_init 33 = .ok (.aastore, 1) := by decide +kernel
theorem dX2_init_34 : dec mX2_init 34 = .ok (.iinc 1 1, 3) := by decide +kernel
theorem dX2_init_37 : dec mX2_init 37 = .ok (.goto (-22), 3) := by decide +kernel
theorem dX2_init_40 : dec mX2_init 40 = .ok (.return_, 1) := by decide +kernel
theorem dX2_isEmpty_0 : dec mX2_isEmpty 0 = .ok (.aload_n 0, 1) := by decide +kernel
theorem dX2_isEmpty_1 : dec mX2_isEmpty 1 = .ok (.getfield 18, 3) := by decide +kernel
theorem dX2_isEmpty_4 : dec mX2_isEmpty 4 = .ok (.ifCond .ne 7, 3) := by decide +kernel
theorem dX2_isEmpty_7 : dec mX2_isEmpty 7 = .ok (.iconst 1, 1) := by decide +kernel
theorem dX2_isEmpty_8 : dec mX2_isEmpty 8 = .ok (.goto 4, 3) := by decide +kernel
theorem dX2_isEmpty_11 : dec mX2_isEmpty 11 = .ok (.iconst 0, 1) := by decide +kernel
theorem dX2_isEmpty_12 : dec mX2_isEmpty 12 = .ok (.ireturn, 1) := by decide +kernel
theorem dX2_forget_0 : dec mX2_forget 0 = .ok (.aload_n 0, 1) := by decide +kernel
theorem dX2_forget_1 : dec mX2_forget 1 = .ok (.iconst 0, 1) := by decide +kernel
theorem dX2_forget_2 : dec mX2_forget 2 = .ok (.putfield 18, 3) := by decide +kernel
theorem dX2_forget_5 : dec mX2_forget 5 = .ok (.return_, 1) := by decide +kernel
theorem dX2_remember_0 : dec mX2_remember 0 = .ok (.aload_n 0, 1) := by decide +kernel
theorem dX2_remember_1 : dec mX2_remember 1 = .ok (.getfield 18, 3) := by decide +kernel
theorem dX2_remember_4 : dec mX2_remember 4 = .ok (.bipush 14, 2) := by decide +kernel
theorem dX2_remember_6 : dec mX2_remember 6 = .ok (.if_icmp .ne 26, 3) := by decide +kernel
theorem dX2_remember_9 : dec mX2_remember 9 = .ok (.aload_n 0, 1) := by decide +kernel
theorem dX2_remember_10 : dec mX2_remember 10 = .ok (.aload_n 0, 1) := by decide +kernel
theorem dX2_remember_11 : dec mX2_remember 11 = .ok (.getfield 22, 3) := by decide +kernel
theorem dX2_remember_14 : dec mX2_remember 14 = .ok (.iconst 1, 1) := by decide +kernel
theorem dX2_remember_15 : dec mX2_remember 15 = .ok (.iadd, 1) := by decide +kernel
theorem dX2_remember_16 : dec mX2_remember 16 = .ok (.bipush 14, 2) := by decide +kernel
theorem dX2_remember_18 : dec mX2_remember 18 = .ok (.irem, 1) := by decide +kernel
theorem dX2_remember_19 : dec mX2_remember 19 = .ok (.putfield 22, 3) := by decide +kernel
theorem dX2_remember_22 : dec mX2_remember 22 = .ok (.aload_n 0, 1) := by decide +kernel
theorem dX2_remember_23 : dec mX2_remember 23 = .ok (.dup, 1) := by decide +kernel
theorem dX2_remember_24 : dec mX2_remember 24 = .ok (.getfield 18, 3) := by decide +kernel
theorem dX2_remember_27 : dec mX2_remember 27 = .ok (.iconst 1, 1) := by decide +kernel
theorem dX2_remember_28 : dec mX2_remember 28 = .ok (.isub, 1) := by decide +kernel
theorem dX2_remember_29 : dec mX2_remember 29 = .ok (.putfield 18, 3) := by decide +kernel
theorem dX2_remember_32 : dec mX2_remember 32 = .ok (.aload_n 1, 1) := by decide +kernel
theorem dX2_remember_33 : dec mX2_remember 33 = .ok (.aload_n 0, 1) := by decide +kernel
theorem dX2_remember_34 : dec mX2_remember 34 = .ok (.aload_n 0, 1) := by decide +kernel
theorem dX2_remember_35 : dec mX2_remember 35 = .ok (.getfield 22, 3) := by decide +kernel
theorem dX2_remember_38 : dec mX2_remember 38 = .ok (.aload_n 0, 1) := by decide +kernel
theorem dX2_remember_39 : dec mX2_remember 39 = .ok (.getfield 18, 3) := by decide +kernel
theorem dX2_remember_42 : dec mX2_remember 42 = .ok (.iadd, 1) := by decide +kernel
theorem dX2_remember_43 : dec mX2_remember 43 = .ok (.bipush 14, 2) := by decide +kernel
theorem dX2_remember_45 : dec mX2_remember 45 = .ok (.irem, 1) := by decide +kernel
theorem dX2_remember_46 : dec mX2_remember 46 = .ok (.invokevirtual 25, 3) := by decide +kernel
theorem dX2_remember_49 : dec mX2_remember 49 = .ok (.invokestatic 29, 3) := by decide +kernel
theorem dX2_remember_52 : dec mX2_remember 52 = .ok (.aload_n 0, 1) := by decide +kernel
theorem dX2_remember_53 : dec mX2_remember 53 = .ok (.dup, 1) := by decide +kernel
theorem dX2_remember_54 : dec mX2_remember 54 = .ok (.getfield 18, 3) := by decide +kernel
theorem dX2_remember_57 : dec mX2_remember 57 = .ok (.iconst 1, 1) := by decide +kernel
theorem dX2_remember_58 : dec mX2_remember 58 = .ok (.iadd, 1) := by decide +kernel
theorem dX2_remember_59 : dec mX2_remember 59 = .ok (.putfield 18, 3) := by decide +kernel
theorem dX2_remember_62 : dec mX2_remember 62 = .ok (.return_, 1) := by decide +kernel
theorem dX2_takeLast_0 : dec mX2_takeLast 0 = .ok (.aload_n 0, 1) := by decide +kernel
theorem dX2_takeLast_1 : dec mX2_takeLast 1 = .ok (.getfield 18, 3) := by decide +kernel
theorem dX2_takeLast_4 : dec mX2_takeLast 4 = .ok (.ifCond .ne 5, 3) := by decide +kernel
theorem dX2_takeLast_7 : dec mX2_takeLast 7 = .ok (.aconst_null, 1) := by decide +kernel
theorem dX2_takeLast_8 : dec mX2_takeLast 8 = .ok (.areturn, 1) := by decide +kernel
theorem dX2_takeLast_9 : dec mX2_takeLast 9 = .ok (.aload_n 0, 1) := by decide +kernel
theorem dX2_takeLast_10 : dec mX2_takeLast 10 = .ok (.dup, 1) := by decide +kernel
theorem dX2_takeLast_11 : dec mX2_takeLast 11 = .ok (.getfield 18, 3) := by decide +kernel
theorem dX2_takeLast_14 : dec mX2_takeLast 14 = .ok (.iconst 1, 1) := by decide +kernel
theorem dX2_takeLast_15 : dec mX2_takeLast 15 = .ok (.isub, 1) := by decide +kernel
theorem dX2_takeLast_16 : dec mX2_takeLast 16 = .ok (.putfield 18, 3) := by decide +kernel
theorem dX2_takeLast_19 : dec mX2_takeLast 19 = .ok (.aload_n 0, 1) := by decide +kernel
theorem dX2_takeLast_20 : dec mX2_takeLast 20 = .ok (.aload_n 0, 1) := by decide +kernel
theorem dX2_takeLast_21 : dec mX2_takeLast 21 = .ok (.getfield 22, 3) := by decide +kernel
theorem dX2_takeLast_24 : dec mX2_takeLast 24 = .ok (.aload_n 0, 1) := by decide +kernel
theorem dX2_takeLast_25 : dec mX2_takeLast 25 = .ok (.getfield 18, 3) := by decide +kernel
theorem dX2_takeLast_28 : dec mX2_takeLast 28 = .ok (.iadd, 1) := by decide +kernel
theorem dX2_takeLast_29 : dec mX2_takeLast 29 = .ok (.bipush 14, 2) := by decide +kernel
theorem dX2_takeLast_31 : dec mX2_takeLast 31 = .ok (.irem, 1) := by decide +kernel
theorem dX2_takeLast_32 : dec mX2_takeLast 32 = .ok (.invokevirtual 25, 3) := by decide +kernel
theorem dX2_takeLast_35 : dec mX2_takeLast 35 = .ok (.areturn, 1) := by decide +kernel
theorem dX2_stateAt_0 : dec mX2_stateAt 0 = .ok (.iload_n 1, 1) := by decide +kernel
theorem dX2_stateAt_1 : dec mX2_stateAt 1 = .ok (.ifCond .lt 21, 3) := by decide +kernel
theorem dX2_stateAt_4 : dec mX2_stateAt 4 = .ok (.iload_n 1, 1) := by decide +kernel
theorem dX2_stateAt_5 : dec mX2_stateAt 5 = .ok (.aload_n 0, 1) := by decide +kernel
theorem dX2_stateAt_6 : dec mX2_stateAt 6 = .ok (.getfield 11, 3) := by decide +kernel
theorem dX2_stateAt_9 : dec mX2_stateAt 9 = .ok (.arraylength, 1) := by decide +kernel
theorem dX2_stateAt_10 : dec mX2_stateAt 10 = .ok (.if_icmp .ge 12, 3) := by decide +kernel
theorem dX2_stateAt_13 : dec mX2_stateAt 13 = .ok (.aload_n 0, 1) := by decide +kernel
theorem dX2_stateAt_14 : dec mX2_stateAt 14 = .ok (.getfield 11, 3) := by decide +kernel
theorem dX2_stateAt_17 : dec mX2_stateAt 17 = .ok (.iload_n 1, 1) := by decide +kernel
theorem dX2_stateAt_18 : dec mX2_stateAt 18 = .ok (.aaload, 1) := by decide +kernel
theorem dX2_stateAt_19 : dec mX2_stateAt 19 = .ok (.goto 4, 3) := by decide +kernel
theorem dX2_stateAt_22 : dec mX2_stateAt 22 = .ok (.aconst_null, 1) := by decide +kernel
theorem dX2_stateAt_23 : dec mX2_stateAt 23 = .ok (.areturn, 1) := by decide +kernel
theorem dX3_init_0 : dec mX3_init 0 = .ok (.aload_n 0, 1) := by decide +kernel
theorem dX3_init_1 : dec mX3_init 1 = .ok (.invokespecial 3, 3) := by decide +kernel
theorem dX3_init_4 : dec mX3_init 4 = .ok (.aload_n 0, 1) := by decide +kernel
theorem dX3_init_5 : dec mX3_init 5 = .ok (.bipush 56, 2) := by decide +kernel
theorem dX3_init_7 : dec mX3_init 7 = .ok (.newarray .int, 2) := by decide +kernel
theorem dX3_init_9 : dec mX3_init 9 = .ok (.putfield 9, 3) := by decide +kernel
theorem dX3_init_12 : dec mX3_init 12 = .ok (.aload_n 0, 1) := by decide +kernel
theorem dX3_init_13 : dec mX3_init 13 = .ok (.bipush 56, 2) := by decide +kernel
theorem dX3_init_15 : dec mX3_init 15 = .ok (.newarray .int, 2) := by decide +kernel
theorem dX3_init_17 : dec mX3_init 17 = .ok (.putfield 15, 3) := by decide +kernel
theorem dX3_init_20 : dec mX3_init 20 = .ok (.aload_n 0, 1) := by decide +kernel
theorem dX3_init_21 : dec mX3_init 21 = .ok (.bipush 56, 2) := by decide +kernel
theorem dX3_init_23 : dec mX3_init 23 = .ok (.newarray .int, 2) := by decide +kernel
theorem dX3_init_25 : dec mX3_init 25 = .ok (.putfield 18, 3) := by decide +kernel
theorem dX3_init_28 : dec mX3_init 28 = .ok (.aload_n 0, 1) := by decide +kernel
theorem dX3_init_29 : dec mX3_init 29 = .ok (.bipush 56, 2) := by decide +kernel
theorem dX3_init_31 : dec mX3_init 31 = .ok (.newarray .int, 2) := by decide +kernel
theorem dX3_init_33 : dec mX3_init 33 = .ok (.putfield 21, 3) := by decide +kernel
theorem dX3_init_36 : dec mX3_init 36 = .ok (.aload_n 0, 1) := by decide +kernel
theorem dX3_init_37 : dec mX3_init 37 = .ok (.bipush 56, 2) := by decide +kernel
theorem dX3_init_39 : dec mX3_init 39 = .ok (.newarray .int, 2) := by decide +kernel
theorem dX3_init_41 : dec mX3_init 41 = .ok (.putfield 24, 3) := by decide +kernel
theorem dX3_init_44 : dec mX3_init 44 = .ok (.aload_n 0, 1) := by decide +kernel
theorem dX3_init_45 : dec mX3_init 45 = .ok (.bipush 56, 2) := by decide +kernel
theorem dX3_init_47 : dec mX3_init 47 = .ok (.newarray .int, 2) := by decide +kernel
theorem dX3_init_49 : dec mX3_init 49 = .ok (.putfield 27, 3) := by decide +kernel
theorem dX3_init_52 : dec mX3_init 52 = .ok (.return_, 1) := by decide +kernel
theorem dX3_findIn_0 : dec mX3_findIn 0 = .ok (.aload_n 0, 1) := by decide +kernel
theorem dX3_findIn_1 : dec mX3_findIn 1 = .ok (.iconst (-1), 1) := by decide +kernel
theorem dX3_findIn_2 : dec mX3_findIn 2 = .ok (.putfield 30, 3) := by decide +kernel
theorem dX3_findIn_5 : dec mX3_findIn 5 = .ok (.aload_n 0, 1) := by decide +kernel
theorem dX3_findIn_6 : dec mX3_findIn 6 = .ok (.iconst 0, 1) := by decide +kernel
theorem dX3_findIn_7 : dec mX3_findIn 7 = .ok (.putfield 34, 3) := by decide +kernel
theorem dX3_findIn_10 : dec mX3_findIn 10 = .ok (.aload_n 0, 1) := by decide +kernel
theorem dX3_findIn_11 : dec mX3_findIn 11 = .ok (.aload_n 1, 1) := by decide +kernel
theorem dX3_findIn_12 : dec mX3_findIn 12 = .ok (.invokevirtual 37, 3) := by decide +kernel
theorem dX3_findIn_15 : dec mX3_findIn 15 = .ok (.iconst 0, 1) := by decide +kernel
theorem dX3_findIn_16 : dec mX3_findIn 16 = .ok (.istore_n 2, 1) := by decide +kernel
theorem dX3_findIn_17 : dec mX3_findIn 17 = .ok (.iload_n 2, 1) := by decide +kernel
theorem dX3_findIn_18 : dec mX3_findIn 18 = .ok (.aload_n 1, 1) := by decide +kernel
theorem dX3_findIn_19 : dec mX3_findIn 19 = .ok (.getfield 41, 3) := by decide +kernel
theorem dX3_findIn_22 : dec mX3_findIn 22 = .ok (.if_icmp .ge 27, 3) := by decide +kernel
theorem dX3_findIn_25 : dec mX3_findIn 25 = .ok (.aload_n 1, 1) := by decide +kernel
theorem dX3_findIn_26 : dec mX3_findIn 26 = .ok (.iload_n 2, 1) := by decide +kernel
theorem dX3_findIn_27 : dec mX3_findIn 27 = .ok (.invokevirtual 46, 3) := by decide +kernel
theorem dX3_findIn_30 : dec mX3_findIn 30 = .ok (.ifCond .ne 13, 3) := by decide +kernel
theorem dX3_findIn_33 : dec mX3_findIn 33 = .ok (.aload_n 0, 1) := by decide +kernel
theorem dX3_findIn_34 : dec mX3_findIn 34 = .ok (.iload_n 2, 1) := by decide +kernel
theorem dX3_findIn_35 : dec mX3_findIn 35 = .ok (.aload_n 1, 1) := by decide +kernel
theorem dX3_findIn_36 : dec mX3_findIn 36 = .ok (.iload_n 2, 1) := by decide +kernel
theorem dX3_findIn_37 : dec mX3_findIn 37 = .ok (.invokevirtual 50, 3) := by decide +kernel
theorem dX3_findIn_40 : dec mX3_findIn 40 = .ok (.invokevirtual 54, 3) := by decide +kernel
theorem dX3_findIn_43 : dec mX3_findIn 43 = .ok (.iinc 2 1, 3) := by decide +kernel
theorem dX3_findIn_46 : dec mX3_findIn 46 = .ok (.goto (-29), 3) := by decide +kernel
theorem dX3_findIn_49 : dec mX3_findIn 49 = .ok (.iconst 0, 1) := by decide +kernel
theorem dX3_findIn_50 : dec mX3_findIn 50 = .ok (.istore_n 2, 1) := by decide +kernel
theorem dX3_findIn_51 : dec mX3_findIn 51 = .ok (.iload_n 2, 1) := by decide +kernel
theorem dX3_findIn_52 : dec mX3_findIn 52 = .ok (.aload_n 1, 1) := by decide +kernel
theorem dX3_findIn_53 : dec mX3_findIn 53 = .ok (.getfield 41, 3) := by decide +kernel
theorem dX3_findIn_56 : dec mX3_findIn 56 = .ok (.if_icmp .ge 26, 3) := by decide +kernel
theorem dX3_findIn_59 : dec mX3_findIn 59 = .ok (.aload_n 1, 1) := by decide +kernel
theorem dX3_findIn_60 : dec mX3_findIn 60 = .ok (.iload_n 2, 1) := by decide +kernel
theorem dX3_findIn_61 : dec mX3_findIn 61 = .ok (.invokevirtual 46, 3) := by decide +kernel
theorem dX3_findIn_64 : dec mX3_findIn 64 = .ok (.ifCond .ne 12, 3) := by decide +kernel
theorem dX3_findIn_67 : dec mX3_findIn 67 = .ok (.aload_n 0, 1) := by decide +kernel
theorem dX3_findIn_68 : dec mX3_findIn 68 = .ok (.iload_n 2, 1) := by decide +kernel
theorem dX3_findIn_69 : dec mX3_findIn 69 = .ok (.aload_n 1, 1) := by decide +kernel
theorem dX3_findIn_70 : dec mX3_findIn 70 = .ok (.getfield 41, 3) := by decide +kernel
theorem dX3_findIn_73 : dec mX3_findIn 73 = .ok (.invokevirtual 58, 3) := by decide +kernel
theorem dX3_findIn_76 : dec mX3_findIn 76 = .ok (.iinc 2 1, 3) := by decide +kernel
theorem dX3_findIn_79 : dec mX3_findIn 79 = .ok (.goto (-28), 3) := by decide +kernel
theorem dX3_findIn_82 : dec mX3_findIn 82 = .ok (.iconst 0, 1) := by decide +kernel
theorem dX3_findIn_83 : dec mX3_findIn 83 = .ok (.istore_n 2, 1) := by decide +kernel
theorem dX3_findIn_84 : dec mX3_findIn 84 = .ok (.iload_n 2, 1) := by decide +kernel
theorem dX3_findIn_85 : dec mX3_findIn 85 = .ok (.aload_n 1, 1) := by decide +kernel
theorem dX3_findIn_86 : dec mX3_findIn 86 = .ok (.getfield 41, 3) := by decide +kernel
theorem dX3_findIn_89 : dec mX3_findIn 89 = .ok (.if_icmp .ge 61, 3) := by decide +kernel
theorem dX3_findIn_92 : dec mX3_findIn 92 = .ok (.aload_n 1, 1) := by decide +kernel
theorem dX3_findIn_93 : dec mX3_findIn 93 = .ok (.iload_n 2, 1) := by decide +kernel
theorem dX3_findIn_94 : dec mX3_findIn 94 = .ok (.invokevirtual 61, 3) := by decide +kernel
theorem dX3_findIn_97 : dec mX3_findIn 97 = .ok (.istore_n 3, 1) := by decide +kernel
theorem dX3_findIn_98 : dec mX3_findIn 98 = .ok (.iload_n 3, 1) := by decide +kernel
theorem dX3_findIn_99 : dec mX3_findIn 99 = .ok (.iconst (-1), 1) := by decide +kernel
theorem dX3_findIn_100 : dec mX3_findIn 100 = .ok (.if_icmp .eq 44, 3) := by decide +kernel
theorem dX3_findIn_103 : dec mX3_findIn 103 = .ok (.aload_n 1, 1) := by decide +kernel
theorem dX3_findIn_104 : dec mX3_findIn 104 = .ok (.iload_n 2, 1) := by decide +kernel
theorem dX3_findIn_105 : dec mX3_findIn 105 = .ok (.invokevirtual 46, 3) := by decide +kernel
theorem dX3_findIn_108 : dec mX3_findIn 108 = .ok (.ifCond .ne 36, 3) := by decide +kernel
theorem dX3_findIn_111 : dec mX3_findIn 111 = .ok (.aload_n 1, 1) := by decide +kernel
theorem dX3_findIn_112 : dec mX3_findIn 112 = .ok (.iload_n 3, 1) := by decide +kernel
theorem dX3_findIn_113 : dec mX3_findIn 113 = .ok (.invokevirtual 46, 3) := by decide +kernel
theorem dX3_findIn_116 : dec mX3_findIn 116 = .ok (.ifCond .ne 28, 3) := by decide +kernel
theorem dX3_findIn_119 : dec mX3_findIn 119 = .ok (.aload_n 0, 1) := by decide +kernel
theorem dX3_findIn_120 : dec mX3_findIn 120 = .ok (.sipush 20000, 3) := by decide +kernel
theorem dX3_findIn_123 : dec mX3_findIn 123 = .ok (.aload_n 1, 1) := by decide +kernel
theorem dX3_findIn_124 : dec mX3_findIn 124 = .ok (.getfield 64, 3) := by decide +kernel
theorem dX3_findIn_127 : dec mX3_findIn 127 = .ok (.getfield 68, 3) := by decide +kernel
theorem dX3_findIn_130 : dec mX3_findIn 130 = .ok (.iload_n 2, 1) := by decide +kernel
theorem dX3_findIn_131 : dec mX3_findIn 131 = .ok (.invokestatic 73, 3) := by decide +kernel
theorem dX3_findIn_134 : dec mX3_findIn 134 = .ok (.iadd, 1) := by decide +kernel
theorem dX3_findIn_135 : dec mX3_findIn 135 = .ok (.aload_n 1, 1) := by decide +kernel
theorem dX3_findIn_136 : dec mX3_findIn 136 = .ok (.iload_n 2, 1) := by decide +kernel
theorem dX3_findIn_137 : dec mX3_findIn 137 = .ok (.iload_n 3, 1) := by decide +kernel
theorem dX3_findIn_138 : dec mX3_findIn 138 = .ok (.invokevirtual 77, 3) := by decide +kernel
theorem dX3_findIn_141 : dec mX3_findIn 141 = .ok (.invokevirtual 54, 3) := by decide +kernel
theorem dX3_findIn_144 : dec mX3_findIn 144 = .ok (.iinc 2 1, 3) := by decide +kernel
theorem dX3_findIn_147 : dec mX3_findIn 147 = .ok (.goto (-63), 3) := by decide +kernel
theorem dX3_findIn_150 : dec mX3_findIn 150 = .ok (.return_, 1) := by decide +kernel
theorem dX3_fillRows_0 : dec mX3_fillRows 0 = .ok (.aload_n 1, 1) := by decide +kernel
theorem dX3_fillRows_1 : dec mX3_fillRows 1 = .ok (.getfield 64, 3) := by decide +kernel
theorem dX3_fillRows_4 : dec mX3_fillRows 4 = .ok (.astore_n 2, 1) := by decide +kernel
theorem dX3_fillRows_5 : dec mX3_fillRows 5 = .ok (.iconst 0, 1) := by decide +kernel
theorem dX3_fillRows_6 : dec mX3_fillRows 6 = .ok (.istore_n 3, 1) := by decide +kernel
theorem dX3_fillRows_7 : dec mX3_fillRows 7 = .ok (.iload_n 3, 1) := by decide +kernel
theorem dX3_fillRows_8 : dec mX3_fillRows 8 = .ok (.aload_n 1, 1) := by decide +kernel
theorem dX3_fillRows_9 : dec mX3_fillRows 9 = .ok (.getfield 41, 3) := by decide +kernel
theorem dX3_fillRows_12 : dec mX3_fillRows 12 = .ok (.if_icmp .ge 136, 3) := by decide +kernel
theorem dX3_fillRows_15 : dec mX3_fillRows 15 = .ok (.aload_n 2, 1) := by decide +kernel
theorem dX3_fillRows_16 : dec mX3_fillRows 16 = .ok (.getfield 81, 3) := by decide +kernel
theorem dX3_fillRows_19 : dec mX3_fillRows 19 = .ok (.iload_n 3, 1) := by decide +kernel
theorem dX3_fillRows_20 : dec mX3_fillRows 20 = .ok (.invokestatic 73, 3) := by decide +kernel
theorem dX3_fillRows_23 : dec mX3_fillRows 23 = .ok (.istore 4, 2) := by decide +kernel
theorem dX3_fillRows_25 : dec mX3_fillRows 25 = .ok (.aload_n 0, 1) := by decide +kernel
theorem dX3_fillRows_26 : dec mX3_fillRows 26 = .ok (.getfield 9, 3) := by decide +kernel
theorem dX3_fillRows_29 : dec mX3_fillRows 29 = .ok (.iload_n 3, 1) := by decide +kernel
theorem dX3_fillRows_30 : dec mX3_fillRows 30 = .ok (.aload_n 2, 1) := by decide +kernel
theorem dX3_fillRows_31 : dec mX3_fillRows 31 = .ok (.getfield 84, 3) := by decide +kernel
theorem dX3_fillRows_34 : dec mX3_fillRows 34 = .ok (.iload_n 3, 1) := by decide +kernel
theorem dX3_fillRows_35 : dec mX3_fillRows 35 = .ok (.invokestatic 73, 3) := by decide +kernel
theorem dX3_fillRows_38 : dec mX3_fillRows 38 = .ok (.invokestatic 85, 3) := by decide +kernel
theorem dX3_fillRows_41 : dec mX3_fillRows 41 = .ok (.aload_n 0, 1) := by decide +kernel
theorem dX3_fillRows_42 : dec mX3_fillRows 42 = .ok (.getfield 15, 3) := by decide +kernel
theorem dX3_fillRows_45 : dec mX3_fillRows 45 = .ok (.iload_n 3, 1) := by decide +kernel
theorem dX3_fillRows_46 : dec mX3_fillRows 46 = .ok (.aload_n 2, 1) := by decide +kernel
theorem dX3_fillRows_47 : dec mX3_fillRows 47 = .ok (.getfield 89, 3) := by decide +kernel
theorem dX3_fillRows_50 : dec mX3_fillRows 50 = .ok (.aload_n 2, 1) := by decide +kernel
theorem dX3_fillRows_51 : dec mX3_fillRows 51 = .ok (.getfield 68, 3) := by decide +kernel
theorem dX3_fillRows_54 : dec mX3_fillRows 54 = .ok (.iload_n 3, 1) := by decide +kernel
theorem dX3_fillRows_55 : dec mX3_fillRows 55 = .ok (.invokestatic 73, 3) := by decide +kernel
theorem dX3_fillRows_58 : dec mX3_fillRows 58 = .ok (.invokestatic 73, 3) := by decide +kernel
theorem dX3_fillRows_61 : dec mX3_fillRows 61 = .ok (.invokestatic 85, 3) := by decide +kernel
theorem dX3_fillRows_64 : dec mX3_fillRows 64 = .ok (.aload_n 0, 1) := by decide +kernel
theorem dX3_fillRows_65 : dec mX3_fillRows 65 = .ok (.getfield 18, 3) := by decide +kernel
theorem dX3_fillRows_68 : dec mX3_fillRows 68 = .ok (.iload_n 3, 1) := by decide +kernel
theorem dX3_fillRows_69 : dec mX3_fillRows 69 = .ok (.aload_n 2, 1) := by decide +kernel
theorem dX3_fillRows_70 : dec mX3_fillRows 70 = .ok (.getfield 89, 3) := by decide +kernel
theorem dX3_fillRows_73 : dec mX3_fillRows 73 = .ok (.aload_n 2, 1) := by decide +kernel
theorem dX3_fillRows_74 : dec mX3_fillRows 74 = .ok (.getfield 92, 3) := by decide +kernel
theorem dX3_fillRows_77 : dec mX3_fillRows 77 = .ok (.iload_n 3, 1) := by decide +kernel
theorem dX3_fillRows_78 : dec mX3_fillRows 78 = .ok (.invokestatic 73, 3) := by decide +kernel
theorem dX3_fillRows_81 : dec mX3_fillRows 81 = .ok (.invokestatic 73, 3) := by decide +kernel
theorem dX3_fillRows_84 : dec mX3_fillRows 84 = .ok (.invokestatic 85, 3) := by decide +kernel
theorem dX3_fillRows_87 : dec mX3_fillRows 87 = .ok (.aload_n 0, 1) := by decide +kernel
theorem dX3_fillRows_88 : dec mX3_fillRows 88 = .ok (.getfield 21, 3) := by decide +kernel
theorem dX3_fillRows_91 : dec mX3_fillRows 91 = .ok (.iload_n 3, 1) := by decide +kernel
theorem dX3_fillRows_92 : dec mX3_fillRows 92 = .ok (.aload_n 1, 1) := by decide +kernel
theorem dX3_fillRows_93 : dec mX3_fillRows 93 = .ok (.getfield 95, 3) := by decide +kernel
theorem dX3_fillRows_96 : dec mX3_fillRows 96 = .ok (.iload 4, 2) := by decide +kernel
theorem dX3_fillRows_98 : dec mX3_fillRows 98 = .ok (.invokestatic 73, 3) := by decide +kernel
theorem dX3_fillRows_101 : dec mX3_fillRows 101 = .ok (.invokestatic 85, 3) := by decide +kernel
theorem dX3_fillRows_104 : dec mX3_fillRows 104 = .ok (.aload_n 0, 1) := by decide +kernel
theorem dX3_fillRows_105 : dec mX3_fillRows 105 = .ok (.getfield 24, 3) := by decide +kernel
theorem dX3_fillRows_108 : dec mX3_fillRows 108 = .ok (.iload_n 3, 1) := by decide +kernel
theorem dX3_fillRows_109 : dec mX3_fillRows 109 = .ok (.aload_n 1, 1) := by decide +kernel
theorem dX3_fillRows_110 : dec mX3_fillRows 110 = .ok (.getfield 98, 3) := by decide +kernel
theorem dX3_fillRows_113 : dec mX3_fillRows 113 = .ok (.iload 4, 2) := by decide +kernel
theorem dX3_fillRows_115 : dec mX3_fillRows 115 = .ok (.invokestatic 73, 3) := by decide +kernel
theorem dX3_fillRows_118 : dec mX3_fillRows 118 = .ok (.invokestatic 85, 3) := by decide +kernel
theorem dX3_fillRows_121 : dec mX3_fillRows 121 = .ok (.aload_n 0, 1) := by decide +kernel
theorem dX3_fillRows_122 : dec mX3_fillRows 122 = .ok (.getfield 27, 3) := by decide +kernel
theorem dX3_fillRows_125 : dec mX3_fillRows 125 = .ok (.iload_n 3, 1) := by decide +kernel
theorem dX3_fillRows_126 : dec mX3_fillRows 126 = .ok (.aload_n 1, 1) := by decide +kernel
theorem dX3_fillRows_127 : dec mX3_fillRows 127 = .ok (.iload_n 3, 1) := by decide +kernel
theorem dX3_fillRows_128 : dec mX3_fillRows 128 = .ok (.aload_n 2, 1) := by decide +kernel
theorem dX3_fillRows_129 : dec mX3_fillRows 129 = .ok (.getfield 101, 3) := by decide +kernel
theorem dX3_fillRows_132 : dec mX3_fillRows 132 = .ok (.iload_n 3, 1) := by decide +kernel
theorem dX3_fillRows_133 : dec mX3_fillRows 133 = .ok (.invokestatic 73, 3) := by decide +kernel
theorem dX3_fillRows_136 : dec mX3_fillRows 136 = .ok (.invokevirtual 104, 3) := by decide +kernel
theorem dX3_fillRows_139 : dec mX3_fillRows 139 = .ok (.invokestatic 85, 3) := by decide +kernel
theorem dX3_fillRows_142 : dec mX3_fillRows 142 = .ok (.iinc 3 1, 3) := by decide +kernel
theorem dX3_fillRows_145 : dec mX3_fillRows 145 = .ok (.goto (-138), 3) := by decide +kernel
theorem dX3_fillRows_148 : dec mX3_fillRows 148 = .ok (.return_, 1) := by decide +kernel
theorem dX3_offerSwapsOf_0 : dec mX3_offerSwapsOf 0 = .ok (.sipush 10000, 3) := by decide +kernel
theorem dX3_offerSwapsOf_3 : dec mX3_offerSwapsOf 3 = .ok (.bipush 100, 2) := by decide +kernel
theorem dX3_offerSwapsOf_5 : dec mX3_offerSwapsOf 5 = .ok (.iload_n 1, 1) := by decide +kernel
theorem dX3_offerSwapsOf_6 : dec mX3_offerSwapsOf 6 = .ok (.imul, 1) := by decide +kernel
theorem dX3_offerSwapsOf_7 : dec mX3_offerSwapsOf 7 = .ok (.iadd, 1) := by decide +kernel
theorem dX3_offerSwapsOf_8 : dec mX3_offerSwapsOf 8 = .ok (.istore_n 3, 1) := by decide +kernel
theorem dX3_offerSwapsOf_9 : dec mX3_offerSwapsOf 9 = .ok (.aload_n 0, 1) := by decide +kernel
theorem dX3_offerSwapsOf_10 : dec mX3_offerSwapsOf 10 = .ok (.getfield 15, 3) := by decide +kernel
theorem dX3_offerSwapsOf_13 : dec mX3_offerSwapsOf 13 = .ok (.iload_n 1, 1) := by decide +kernel
theorem dX3_offerSwapsOf_14 : dec mX3_offerSwapsOf 14 = .ok (.invokestatic 73, 3) := by decide +kernel
theorem dX3_offerSwapsOf_17 : dec mX3_offerSwapsOf 17 = .ok (.istore 4, 2) := by decide +kernel
theorem dX3_offerSwapsOf_19 : dec mX3_offerSwapsOf 19 = .ok (.aload_n 0, 1) := by decide +kernel
theorem dX3_offerSwapsOf_20 : dec mX3_offerSwapsOf 20 = .ok (.getfield 18, 3) := by decide +kernel
theorem dX3_offerSwapsOf_23 : dec mX3_offerSwapsOf 23 = .ok (.iload_n 1, 1) := by decide +kernel
theorem dX3_offerSwapsOf_24 : dec mX3_offerSwapsOf 24 = .ok (.invokestatic 73, 3) := by decide +kernel
theorem dX3_offerSwapsOf_27 : dec mX3_offerSwapsOf 27 = .ok (.istore 5, 2) := by decide +kernel
theorem dX3_offerSwapsOf_29 : dec mX3_offerSwapsOf 29 = .ok (.aload_n 0, 1) := by decide +kernel
theorem dX3_offerSwapsOf_30 : dec mX3_offerSwapsOf 30 = .ok (.getfield 21, 3) := by decide +kernel
theorem dX3_offerSwapsOf_33 : dec mX3_offerSwapsOf 33 = .ok (.iload_n 1, 1) := by decide +kernel
theorem dX3_offerSwapsOf_34 : dec mX3_offerSwapsOf 34 = .ok (.invokestatic 73, 3) := by decide +kernel
theorem dX3_offerSwapsOf_37 : dec mX3_offerSwapsOf 37 = .ok (.istore 6, 2) := by decide +kernel
theorem dX3_offerSwapsOf_39 : dec mX3_offerSwapsOf 39 = .ok (.aload_n 0, 1) := by decide +kernel
theorem dX3_offerSwapsOf_40 : dec mX3_offerSwapsOf 40 = .ok (.getfield 24, 3) := by decide +kernel
theorem dX3_offerSwapsOf_43 : dec mX3_offerSwapsOf 43 = .ok (.iload_n 1, 1) := by decide +kernel
theorem dX3_offerSwapsOf_44 : dec mX3_offerSwapsOf 44 = .ok (.invokestatic 73, 3) := by decide +kernel
theorem dX3_offerSwapsOf_47 : dec mX3_offerSwapsOf 47 = .ok (.istore 7, 2) := by decide +kernel
theorem dX3_offerSwapsOf_49 : dec mX3_offerSwapsOf 49 = .ok (.aload_n 0, 1) := by decide +kernel
theorem dX3_offerSwapsOf_50 : dec mX3_offerSwapsOf 50 = .ok (.getfield 27, 3) := by decide +kernel
theorem dX3_offerSwapsOf_53 : dec mX3_offerSwapsOf 53 = .ok (.iload_n 1, 1) := by decide +kernel
theorem dX3_offerSwapsOf_54 : dec mX3_offerSwapsOf 54 = .ok (.invokestatic 73, 3) := by decide +kernel
theorem dX3_offerSwapsOf_57 : dec mX3_offerSwapsOf 57 = .ok (.istore 8, 2) := by decide +kernel
theorem dX3_offerSwapsOf_59 : dec mX3_offerSwapsOf 59 = .ok (.iload_n 1, 1) := by decide +kernel
theorem dX3_offerSwapsOf_60 : dec mX3_offerSwapsOf 60 = .ok (.iconst 0, 1) := by decide +kernel
theorem dX3_offerSwapsOf_61 : dec mX3_offerSwapsOf 61 = .ok (.invokestatic 107, 3) := by decide +kernel
theorem dX3_offerSwapsOf_64 : dec mX3_offerSwapsOf 64 = .ok (.iconst 1, 1) := by decide +kernel
theorem dX3_offerSwapsOf_65 : dec mX3_offerSwapsOf 65 = .ok (.iadd, 1) := by decide +kernel
theorem dX3_offerSwapsOf_66 : dec mX3_offerSwapsOf 66 = .ok (.istore 9, 2) := by decide +kernel
theorem dX3_offerSwapsOf_68 : dec mX3_offerSwapsOf 68 = .ok (.iload 9, 2) := by decide +kernel
theorem dX3_offerSwapsOf_70 : dec mX3_offerSwapsOf 70 = .ok (.iload_n 2, 1) := by decide +kernel
theorem dX3_offerSwapsOf_71 : dec mX3_offerSwapsOf 71 = .ok (.if_icmp .ge 92, 3) := by decide +kernel
theorem dX3_offerSwapsOf_74 : dec mX3_offerSwapsOf 74 = .ok (.iload 9, 2) := by decide +kernel
theorem dX3_offerSwapsOf_76 : dec mX3_offerSwapsOf 76 = .ok (.bipush 56, 2) := by decide +kernel
theorem dX3_offerSwapsOf_78 : dec mX3_offerSwapsOf 78 = .ok (.if_icmp .ge 85, 3) := by decide +kernel
theorem dX3_offerSwapsOf_81 : dec mX3_offerSwapsOf 81 = .ok (.aload_n 0, 1) := by decide +kernel
theorem dX3_offerSwapsOf_82 : dec mX3_offerSwapsOf 82 = .ok (.getfield 9, 3) := by decide +kernel
theorem dX3_offerSwapsOf_85 : dec mX3_offerSwapsOf 85 = .ok (.iload 9, 2) := by decide +kernel
theorem dX3_offerSwapsOf_87 : dec mX3_offerSwapsOf 87 = .ok (.iaload, 1) := by decide +kernel
theorem dX3_offerSwapsOf_88 : dec mX3_offerSwapsOf 88 = .ok (.ifCond .ne 69, 3) := by decide +kernel
theorem dX3_offerSwapsOf_91 : dec mX3_offerSwapsOf 91 = .ok (.iload 4, 2) := by decide +kernel
theorem dX3_offerSwapsOf_93 : dec mX3_offerSwapsOf 93 = .ok (.iload 5, 2) := by decide +kernel
theorem dX3_offerSwapsOf_95 : dec mX3_offerSwapsOf 95 = .ok (.aload_n 0, 1) := by decide +kernel
theorem dX3_offerSwapsOf_96 : dec mX3_offerSwapsOf 96 = .ok (.getfield 21, 3) := by decide +kernel
theorem dX3_offerSwapsOf_99 : dec mX3_offerSwapsOf 99 = .ok (.iload 9, 2) := by decide +kernel
theorem dX3_offerSwapsOf_101 : dec mX3_offerSwapsOf 101 = .ok (.iaload, 1) := by decide +kernel
theorem dX3_offerSwapsOf_102 : dec mX3_offerSwapsOf 102 = .ok (.aload_n 0, 1) := by decide +kernel
theorem dX3_offerSwapsOf_103 : dec mX3_offerSwapsOf 103 = .ok (.getfield 24, 3) := by decide +kernel
theorem dX3_offerSwapsOf_106 : dec mX3_offerSwapsOf 106 = .ok (.iload 9, 2) := by decide +kernel
theorem dX3_offerSwapsOf_108 : dec mX3_offerSwapsOf 108 = .ok (.iaload, 1) := by decide +kernel
theorem dX3_offerSwapsOf_109 : dec mX3_offerSwapsOf 109 = .ok (.invokestatic 112, 3) := by decide +kernel
theorem dX3_offerSwapsOf_112 : dec mX3_offerSwapsOf 112 = .ok (.aload_n 0, 1) := by decide +kernel
theorem dX3_offerSwapsOf_113 : dec mX3_offerSwapsOf 113 = .ok (.getfield 15, 3) := by decide +kernel
theorem dX3_offerSwapsOf_116 : dec mX3_offerSwapsOf 116 = .ok (.iload 9, 2) := by decide +kernel
theorem dX3_offerSwapsOf_118 : dec mX3_offerSwapsOf 118 = .ok (.iaload, 1) := by decide +kernel
theorem dX3_offerSwapsOf_119 : dec mX3_offerSwapsOf 119 = .ok (.aload_n 0, 1) := by decide +kernel
theorem dX3_offerSwapsOf_120 : dec mX3_offerSwapsOf 120 = .ok (.getfield 18, 3) := by decide +kernel
theorem dX3_offerSwapsOf_123 : dec mX3_offerSwapsOf 123 = .ok (.iload 9, 2) := by decide +kernel
theorem dX3_offerSwapsOf_125 : dec mX3_offerSwapsOf 125 = .ok (.iaload, 1) := by decide +kernel
theorem dX3_offerSwapsOf_126 : dec mX3_offerSwapsOf 126 = .ok (.iload 6, 2) := by decide +kernel
theorem dX3_offerSwapsOf_128 : dec mX3_offerSwapsOf 128 = .ok (.iload 7, 2) := by decide +kernel
theorem dX3_offerSwapsOf_130 : dec mX3_offerSwapsOf 130 = .ok (.invokestatic 112, 3) := by decide +kernel
theorem dX3_offerSwapsOf_133 : dec mX3_offerSwapsOf 133 = .ok (.iadd, 1) := by decide +kernel
theorem dX3_offerSwapsOf_134 : dec mX3_offerSwapsOf 134 = .ok (.istore 10, 2) := by decide +kernel
theorem dX3_offerSwapsOf_136 : dec mX3_offerSwapsOf 136 = .ok (.aload_n 0, 1) := by decide +kernel
theorem dX3_offerSwapsOf_137 : dec mX3_offerSwapsOf 137 = .ok (.iload_n 3, 1) := by decide +kernel
theorem dX3_offerSwapsOf_138 : dec mX3_offerSwapsOf 138 = .ok (.iload 9, 2) := by decide +kernel
theorem dX3_offerSwapsOf_140 : dec mX3_offerSwapsOf 140 = .ok (.iadd, 1) := by decide +kernel
theorem dX3_offerSwapsOf_141 : dec mX3_offerSwapsOf 141 = .ok (.iload 8, 2) := by decide +kernel
theorem dX3_offerSwapsOf_143 : dec mX3_offerSwapsOf 143 = .ok (.aload_n 0, 1) := by decide +kernel
theorem dX3_offerSwapsOf_144 : dec mX3_offerSwapsOf 144 = .ok (.getfield 27, 3) := by decide +kernel
theorem dX3_offerSwapsOf_147 : dec mX3_offerSwapsOf 147 = .ok (.iload 9, 2) := by decide +kernel
theorem dX3_offerSwapsOf_149 : dec mX3_offerSwapsOf 149 = .ok (.iaload, 1) := by decide +kernel
theorem dX3_offerSwapsOf_150 : dec mX3_offerSwapsOf 150 = .ok (.iadd, 1) := by decide +kernel
theorem dX3_offerSwapsOf_151 : dec mX3_offerSwapsOf 151 = .ok (.iload 10, 2) := by decide +kernel
theorem dX3_offerSwapsOf_153 : dec mX3_offerSwapsOf 153 = .ok (.isub, 1) := by decide +kernel
theorem dX3_offerSwapsOf_154 : dec mX3_offerSwapsOf 154 = .ok (.invokevirtual 54, 3) := by decide +kernel
theorem dX3_offerSwapsOf_157 : dec mX3_offerSwapsOf 157 = .ok (.iinc 9 1, 3) := by decide +kernel
theorem dX3_offerSwapsOf_160 : dec mX3_offerSwapsOf 160 = .ok (.goto (-92), 3) := by decide +kernel
theorem dX3_offerSwapsOf_163 : dec mX3_offerSwapsOf 163 = .ok (.return_, 1) := by decide +kernel
theorem dX3_offer_0 : dec mX3_offer 0 = .ok (.aload_n 0, 1) := by decide +kernel
theorem dX3_offer_1 : dec mX3_offer 1 = .ok (.getfield 30, 3) := by decide +kernel
theorem dX3_offer_4 : dec mX3_offer 4 = .ok (.iconst (-1), 1) := by decide +kernel
theorem dX3_offer_5 : dec mX3_offer 5 = .ok (.if_icmp .eq 11, 3) := by decide +kernel
theorem dX3_offer_8 : dec mX3_offer 8 = .ok (.iload_n 2, 1) := by decide +kernel
theorem dX3_offer_9 : dec mX3_offer 9 = .ok (.aload_n 0, 1) := by decide +kernel
theorem dX3_offer_10 : dec mX3_offer 10 = .ok (.getfield 34, 3) := by decide +kernel
theorem dX3_offer_13 : dec mX3_offer 13 = .ok (.if_icmp .le 13, 3) := by decide +kernel
theorem dX3_offer_16 : dec mX3_offer 16 = .ok (.aload_n 0, 1) := by decide +kernel
theorem dX3_offer_17 : dec mX3_offer 17 = .ok (.iload_n 1, 1) := by decide +kernel
theorem dX3_offer_18 : dec mX3_offer 18 = .ok (.putfield 30, 3) := by decide +kernel
theorem dX3_offer_21 : dec mX3_offer 21 = .ok (.aload_n 0, 1) := by decide +kernel
theorem dX3_offer_22 : dec mX3_offer 22 = .ok (.iload_n 2, 1) := by decide +kernel
theorem dX3_offer_23 : dec mX3_offer 23 = .ok (.putfield 34, 3) := by decide +kernel
theorem dX3_offer_26 : dec mX3_offer 26 = .ok (.return_, 1) := by decide +kernel
theorem dX4_init_0 : dec mX4_init 0 = .ok (.aload_n 0, 1) := by decide +kernel
theorem dX4_init_1 : dec mX4_init 1 = .ok (.invokespecial 3, 3) := by decide +kernel
theorem dX4_init_4 : dec mX4_init 4 = .ok (.aload_n 0, 1) := by decide +kernel
theorem dX4_init_5 : dec mX4_init 5 = .ok (.iconst 2, 1) := by decide +kernel
theorem dX4_init_6 : dec mX4_init 6 = .ok (.anewarray 9, 3) := by decide +kernel
theorem dX4_init_9 : dec mX4_init 9 = .ok (.putfield 11, 3) := by decide +kernel
theorem dX4_init_12 : dec mX4_init 12 = .ok (.aload_n 0, 1) := by decide +kernel
theorem dX4_init_13 : dec mX4_init 13 = .ok (.iconst 2, 1) := by decide +kernel
theorem dX4_init_14 : dec mX4_init 14 = .ok (.newarray .boolean, 2) := by decide +kernel
theorem dX4_init_16 : dec mX4_init 16 = .ok (.putfield 17, 3) := by decide +kernel
theorem dX4_init_19 : dec mX4_init 19 = .ok (.iconst 0, 1) := by decide +kernel
theorem dX4_init_20 : dec mX4_init 20 = .ok (.istore_n 1, 1) := by decide +kernel
theorem dX4_init_21 : dec mX4_init 21 = .ok (.iload_n 1, 1) := by decide +kernel
theorem dX4_init_22 : dec mX4_init 22 = .ok (.iconst 2, 1) := by decide +kernel
theorem dX4_init_23 : dec mX4_init 23 = .ok (.if_icmp .ge 22, 3) := by decide +kernel
theorem dX4_init_26 : dec mX4_init 26 = .ok (.aload_n 0, 1) := by decide +kernel
theorem dX4_init_27 : dec mX4_init 27 = .ok (.getfield 11, 3) := by decide +kernel
theorem dX4_init_30 : dec mX4_init 30 = .ok (.iload_n 1, 1) := by decide +kernel
theorem dX4_init_31 : dec mX4_init 31 = .ok (.new 9, 3) := by decide +kernel
theorem dX4_init_34 : dec mX4_init 34 = .ok (.dup, 1) := by decide +kernel
theorem dX4_init_35 : dec mX4_init 35 = .ok (.invokespecial 21, 3) := by decide +kernel
theorem dX4_init_38 : dec mX4_init 38 = .ok (.aastore, 1) := by decide +kernel
theorem dX4_init_39 : dec mX4_init 39 = .ok (.iinc 1 1, 3) := by decide +kernel
theorem dX4_init_42 : dec mX4_init 42 = .ok (.goto (-21), 3) := by decide +kernel
theorem dX4_init_45 : dec mX4_init 45 = .ok (.return_, 1) := by decide +kernel
theorem dX4_clear_0 : dec mX4_clear 0 = .ok (.iconst 0, 1) := by decide +kernel
theorem dX4_clear_1 : dec mX4_clear 1 = .ok (.istore_n 1, 1) := by decide +kernel
theorem dX4_clear_2 : dec mX4_clear 2 = .ok (.iload_n 1, 1) := by decide +kernel
theorem dX4_clear_3 : dec mX4_clear 3 = .ok (.iconst 2, 1) := by decide +kernel
theorem dX4_clear_4 : dec mX4_clear 4 = .ok (.if_icmp .ge 16, 3) := by decide +kernel
theorem dX4_clear_7 : dec mX4_clear 7 = .ok (.aload_n 0, 1) := by decide +kernel
theorem dX4_clear_8 : dec mX4_clear 8 = .ok (.getfield 17, 3) := by decide +kernel
theorem dX4_clear_11 : dec mX4_clear 11 = .ok (.iload_n 1, 1) := by decide +kernel
theorem dX4_clear_12 : dec mX4_clear 12 = .ok (.iconst 0, 1) := by decide +kernel
theorem dX4_clear_13 : dec mX4_clear 13 = .ok (.bastore, 1) := by decide +kernel
theorem dX4_clear_14 : dec mX4_clear 14 = .ok (.iinc 1 1, 3) := by decide +kernel
theorem dX4_clear_17 : dec mX4_clear 17 = .ok (.goto (-15), 3) := by decide +kernel
theorem dX4_clear_20 : dec mX4_clear 20 = .ok (.return_, 1) := by decide +kernel
theorem dX4_isFilled_0 : dec mX4_isFilled 0 = .ok (.iload_n 1, 1) := by decide +kernel
theorem dX4_isFilled_1 : dec mX4_isFilled 1 = .ok (.ifCond .lt 25, 3) := by decide +kernel
theorem dX4_isFilled_4 : dec mX4_isFilled 4 = .ok (.iload_n 1, 1) := by decide +kernel
theorem dX4_isFilled_5 : dec mX4_isFilled 5 = .ok (.aload_n 0, 1) := by decide +kernel
theorem dX4_isFilled_6 : dec mX4_isFilled 6 = .ok (.getfield 17, 3) := by decide +kernel
theorem dX4_isFilled_9 : dec mX4_isFilled 9 = .ok (.arraylength, 1) := by decide +kernel
theorem dX4_isFilled_10 : dec mX4_isFilled 10 = .ok (.if_icmp .ge 16, 3) := by decide +kernel
theorem dX4_isFilled_13 : dec mX4_isFilled 13 = .ok (.aload_n 0, 1) := by decide +kernel
theorem dX4_isFilled_14 : dec mX4_isFilled 14 = .ok (.getfield 17, 3) := by decide +kernel
theorem dX4_isFilled_17 : dec mX4_isFilled 17 = .ok (.iload_n 1, 1) := by decide +kernel
theorem dX4_isFilled_18 : dec mX4_isFilled 18 = .ok (.baload, 1) := by decide +kernel
theorem dX4_isFilled_19 : dec mX4_isFilled 19 = .ok (.ifCond .eq 7, 3) := by decide +kernel
theorem dX4_isFilled_22 : dec mX4_isFilled 22 = .ok (.iconst 1, 1) := by decide +kernel
theorem dX4_isFilled_23 : dec mX4_isFilled 23 = .ok (.goto 4, 3) := by decide +kernel
theorem dX4_isFilled_26 : dec mX4_isFilled 26 = .ok (.iconst 0, 1) := by decide +kernel
theorem dX4_isFilled_27 : dec mX4_isFilled 27 = .ok (.ireturn, 1) := by decide +kernel
theorem dX4_keep_0 : dec mX4_keep 0 = .ok (.iload_n 1, 1) := by decide +kernel
theorem dX4_keep_1 : dec mX4_keep 1 = .ok (.ifCond .lt 28, 3) := by decide +kernel
theorem dX4_keep_4 : dec mX4_keep 4 = .ok (.iload_n 1, 1) := by decide +kernel
theorem dX4_keep_5 : dec mX4_keep 5 = .ok (.aload_n 0, 1) := by decide +kernel
theorem dX4_keep_6 : dec mX4_keep 6 = .ok (.getfield 17, 3) := by decide +kernel
theorem dX4_keep_9 : dec mX4_keep 9 = .ok (.arraylength, 1) := by decide +kernel
theorem dX4_keep_10 : dec mX4_keep 10 = .ok (.if_icmp .ge 19, 3) := by decide +kernel
theorem dX4_keep_13 : dec mX4_keep 13 = .ok (.aload_n 2, 1) := by decide +kernel
theorem dX4_keep_14 : dec mX4_keep 14 = .ok (.aload_n 0, 1) := by decide +kernel
theorem dX4_keep_15 : dec mX4_keep 15 = .ok (.iload_n 1, 1) := by decide +kernel
theorem dX4_keep_16 : dec mX4_keep 16 = .ok (.invokevirtual 22, 3) := by decide +kernel
theorem dX4_keep_19 : dec mX4_keep 19 = .ok (.invokestatic 26, 3) := by decide +kernel
theorem dX4_keep_22 : dec mX4_keep 22 = .ok (.aload_n 0, 1) := by decide +kernel
theorem dX4_keep_23 : dec mX4_keep 23 = .ok (.getfield 17, 3) := by decide +kernel
theorem dX4_keep_26 : dec mX4_keep 26 = .ok (.iload_n 1, 1) := by decide +kernel
theorem dX4_keep_27 : dec mX4_keep 27 = .ok (.iconst 1, 1) := by decide +kernel
theorem dX4_keep_28 : dec mX4_keep 28 = .ok (.bastore, 1) := by decide +kernel
theorem dX4_keep_29 : dec mX4_keep 29 = .ok (.return_, 1) := by decide +kernel
theorem dX4_in_0 : dec mX4_in 0 = .ok (.iload_n 1, 1) := by decide +kernel
theorem dX4_in_1 : dec mX4_in 1 = .ok (.ifCond .lt 21, 3) := by decide +kernel
theorem dX4_in_4 : dec mX4_in 4 = .ok (.iload_n 1, 1) := by decide +kernel
theorem dX4_in_5 : dec mX4_in 5 = .ok (.aload_n 0, 1) := by decide +kernel
theorem dX4_in_6 : dec mX4_in 6 = .ok (.getfield 11, 3) := by decide +kernel
theorem dX4_in_9 : dec mX4_in 9 = .ok (.arraylength, 1) := by decide +kernel
theorem dX4_in_10 : dec mX4_in 10 = .ok (.if_icmp .ge 12, 3) := by decide +kernel
theorem dX4_in_13 : dec mX4_in 13 = .ok (.aload_n 0, 1) := by decide +kernel
theorem dX4_in_14 : dec mX4_in 14 = .ok (.getfield 11, 3) := by decide +kernel
theorem dX4_in_17 : dec mX4_in 17 = .ok (.iload_n 1, 1) := by decide +kernel
theorem dX4_in_18 : dec mX4_in 18 = .ok (.aaload, 1) := by decide +kernel
theorem dX4_in_19 : dec mX4_in 19 = .ok (.goto 4, 3) := by decide +kernel
theorem dX4_in_22 : dec mX4_in 22 = .ok (.aconst_null, 1) := by decide +kernel
theorem dX4_in_23 : dec mX4_in 23 = .ok (.areturn, 1) := by decide +kernel
theorem dX5_init_0 : dec mX5_init 0 = .ok (.aload_n 0, 1) := by decide +kernel
theorem dX5_init_1 : dec mX5_init 1 = .ok (.invokespecial 3, 3) := by decide +kernel
theorem dX5_init_4 : dec mX5_init 4 = .ok (.aload_n 0, 1) := by decide +kernel
theorem dX5_init_5 : dec mX5_init 5 = .ok (.bipush 112, 2) := by decide +kernel
theorem dX5_init_7 : dec mX5_init 7 = .ok (.newarray .int, 2) := by decide +kernel
theorem dX5_init_9 : dec mX5_init 9 = .ok (.putfield 9, 3) := by decide +kernel
theorem dX5_init_12 : dec mX5_init 12 = .ok (.aload_n 0, 1) := by decide +kernel
theorem dX5_init_13 : dec mX5_init 13 = .ok (.bipush 56, 2) := by decide +kernel
theorem dX5_init_15 : dec mX5_init 15 = .ok (.newarray .int, 2) := by decide +kernel
theorem dX5_init_17 : dec mX5_init 17 = .ok (.putfield 15, 3) := by decide +kernel
theorem dX5_init_20 : dec mX5_init 20 = .ok (.aload_n 0, 1) := by decide +kernel
theorem dX5_init_21 : dec mX5_init 21 = .ok (.bipush 56, 2) := by decide +kernel
theorem dX5_init_23 : dec mX5_init 23 = .ok (.newarray .int, 2) := by decide +kernel
theorem dX5_init_25 : dec mX5_init 25 = .ok (.putfield 18, 3) := by decide +kernel
theorem dX5_init_28 : dec mX5_init 28 = .ok (.aload_n 0, 1) := by decide +kernel
theorem dX5_init_29 : dec mX5_init 29 = .ok (.bipush 56, 2) := by decide +kernel
theorem dX5_init_31 : dec mX5_init 31 = .ok (.newarray .int, 2) := by decide +kernel
theorem dX5_init_33 : dec mX5_init 33 = .ok (.putfield 21, 3) := by decide +kernel
theorem dX5_init_36 : dec mX5_init 36 = .ok (.aload_n 0, 1) := by decide +kernel
theorem dX5_init_37 : dec mX5_init 37 = .ok (.bipush 56, 2) := by decide +kernel
theorem dX5_init_39 : dec mX5_init 39 = .ok (.newarray .int, 2) := by decide +kernel
theorem dX5_init_41 : dec mX5_init 41 = .ok (.putfield 24, 3) := by decide +kernel
theorem dX5_init_44 : dec mX5_init 44 = .ok (.aload_n 0, 1) := by decide +kernel
theorem dX5_init_45 : dec mX5_init 45 = .ok (.bipush 56, 2) := by decide +kernel
theorem dX5_init_47 : dec mX5_init 47 = .ok (.newarray .int, 2) := by decide +kernel
theorem dX5_init_49 : dec mX5_init 49 = .ok (.putfield 27, 3) := by decide +kernel
theorem dX5_init_52 : dec mX5_init 52 = .ok (.return_, 1) := by decide +kernel
theorem dX5_copy_0 : dec mX5_copy 0 = .ok (.aload_n 0, 1) := by decide +kernel
theorem dX5_copy_1 : dec mX5_copy 1 = .ok (.ifnull 7, 3) := by decide +kernel
theorem dX5_copy_4 : dec mX5_copy 4 = .ok (.aload_n 1, 1) := by decide +kernel
theorem dX5_copy_5 : dec mX5_copy 5 = .ok (.ifnonnull 4, 3) := by decide +kernel
theorem dX5_copy_8 : dec mX5_copy 8 = .ok (.return_, 1) := by decide +kernel
theorem dX5_copy_9 : dec mX5_copy 9 = .ok (.aload_n 1, 1) := by decide +kernel
theorem dX5_copy_10 : dec mX5_copy 10 = .ok (.aload_n 0, 1) := by decide +kernel
theorem dX5_copy_11 : dec mX5_copy 11 = .ok (.getfield 30, 3) := by decide +kernel
theorem dX5_copy_14 : dec mX5_copy 14 = .ok (.putfield 30, 3) := by decide +kernel
theorem dX5_copy_17 : dec mX5_copy 17 = .ok (.aload_n 1, 1) := by decide +kernel
theorem dX5_copy_18 : dec mX5_copy 18 = .ok (.aload_n 0, 1) := by decide +kernel
theorem dX5_copy_19 : dec mX5_copy 19 = .ok (.getfield 34, 3) := by decide +kernel
theorem dX5_copy_22 : dec mX5_copy 22 = .ok (.putfield 34, 3) := by decide +kernel
theorem dX5_copy_25 : dec mX5_copy 25 = .ok (.aload_n 1, 1) := by decide +kernel
theorem dX5_copy_26 : dec mX5_copy 26 = .ok (.aload_n 0, 1) := by decide +kernel
theorem dX5_copy_27 : dec mX5_copy 27 = .ok (.getfield 37, 3) := by decide +kernel
theorem dX5_copy_30 : dec mX5_copy 30 = .ok (.putfield 37, 3) := by decide +kernel
theorem dX5_copy_33 : dec mX5_copy 33 = .ok (.aload_n 0, 1) := by decide +kernel
theorem dX5_copy_34 : dec mX5_copy 34 = .ok (.getfield 9, 3) := by decide +kernel
theorem dX5_copy_37 : dec mX5_copy 37 = .ok (.iconst 0, 1) := by decide +kernel
theorem dX5_copy_38 : dec mX5_copy 38 = .ok (.aload_n 1, 1) := by decide +kernel
theorem dX5_copy_39 : dec mX5_copy 39 = .ok (.getfield 9, 3) := by decide +kernel
theorem dX5_copy_42 : dec mX5_copy 42 = .ok (.iconst 0, 1) := by decide +kernel
theorem dX5_copy_43 : dec mX5_copy 43 = .ok (.bipush 112, 2) := by decide +kernel
theorem dX5_copy_45 : dec mX5_copy 45 = .ok (.invokestatic 40, 3) := by decide +kernel
theorem dX5_copy_48 : dec mX5_copy 48 = .ok (.aload_n 0, 1) := by decide +kernel
theorem dX5_copy_49 : dec mX5_copy 49 = .ok (.getfield 15, 3) := by decide +kernel
theorem dX5_copy_52 : dec mX5_copy 52 = .ok (.iconst 0, 1) := by decide +kernel
theorem dX5_copy_53 : dec mX5_copy 53 = .ok (.aload_n 1, 1) := by decide +kernel
theorem dX5_copy_54 : dec mX5_copy 54 = .ok (.getfield 15, 3) := by decide +kernel
theorem dX5_copy_57 : dec mX5_copy 57 = .ok (.iconst 0, 1) := by decide +kernel
theorem dX5_copy_58 : dec mX5_copy 58 = .ok (.bipush 56, 2) := by decide +kernel
theorem dX5_copy_60 : dec mX5_copy 60 = .ok (.invokestatic 40, 3) := by decide +kernel
theorem dX5_copy_63 : dec mX5_copy 63 = .ok (.aload_n 0, 1) := by decide +kernel
theorem dX5_copy_64 : dec mX5_copy 64 = .ok (.getfield 18, 3) := by decide +kernel
theorem dX5_copy_67 : dec mX5_copy 67 = .ok (.iconst 0, 1) := by decide +kernel
theorem dX5_copy_68 : dec mX5_copy 68 = .ok (.aload_n 1, 1) := by decide +kernel
theorem dX5_copy_69 : dec mX5_copy 69 = .ok (.getfield 18, 3) := by decide +kernel
theorem dX5_copy_72 : dec mX5_copy 72 = .ok (.iconst 0, 1) := by decide +kernel
theorem dX5_copy_73 : dec mX5_copy 73 = .ok (.bipush 56, 2) := by decide +kernel
theorem dX5_copy_75 : dec mX5_copy 75 = .ok (.invokestatic 40, 3) := by decide +kernel
theorem dX5_copy_78 : dec mX5_copy 78 = .ok (.aload_n 0, 1) := by decide +kernel
theorem dX5_copy_79 : dec mX5_copy 79 = .ok (.getfield 21, 3) := by decide +kernel
theorem dX5_copy_82 : dec mX5_copy 82 = .ok (.iconst 0, 1) := by decide +kernel
theorem dX5_copy_83 : dec mX5_copy 83 = .ok (.aload_n 1, 1) := by decide +kernel
theorem dX5_copy_84 : dec mX5_copy 84 = .ok (.getfield 21, 3) := by decide +kernel
theorem dX5_copy_87 : dec mX5_copy 87 = .ok (.iconst 0, 1) := by decide +kernel
theorem dX5_copy_88 : dec mX5_copy 88 = .ok (.bipush 56, 2) := by decide +kernel
theorem dX5_copy_90 : dec mX5_copy 90 = .ok (.invokestatic 40, 3) := by decide +kernel
theorem dX5_copy_93 : dec mX5_copy 93 = .ok (.aload_n 0, 1) := by decide +kernel
theorem dX5_copy_94 : dec mX5_copy 94 = .ok (.getfield 24, 3) := by decide +kernel
theorem dX5_copy_97 : dec mX5_copy 97 = .ok (.iconst 0, 1) := by decide +kernel
theorem dX5_copy_98 : dec mX5_copy 98 = .ok (.aload_n 1, 1) := by decide +kernel
theorem dX5_copy_99 : dec mX5_copy 99 = .ok (.getfield 24, 3) := by decide +kernel
theorem dX5_copy_102 : dec mX5_copy 102 = .ok (.iconst 0, 1) := by decide +kernel
theorem dX5_copy_103 : dec mX5_copy 103 = .ok (.bipush 56, 2) := by decide +kernel
theorem dX5_copy_105 : dec mX5_copy 105 = .ok (.invokestatic 40, 3) := by decide +kernel
theorem dX5_copy_108 : dec mX5_copy 108 = .ok (.aload_n 0, 1) := by decide +kernel
theorem dX5_copy_109 : dec mX5_copy 109 = .ok (.getfield 27, 3) := by decide +kernel
theorem dX5_copy_112 : dec mX5_copy 112 = .ok (.iconst 0, 1) := by decide +kernel
theorem dX5_copy_113 : dec mX5_copy 113 = .ok (.aload_n 1, 1) := by decide +kernel
theorem dX5_copy_114 : dec mX5_copy 114 = .ok (.getfield 27, 3) := by decide +kernel
theorem dX5_copy_117 : dec mX5_copy 117 = .ok (.iconst 0, 1) := by decide +kernel
theorem dX5_copy_118 : dec mX5_copy 118 = .ok (.bipush 56, 2) := by decide +kernel
theorem dX5_copy_120 : dec mX5_copy 120 = .ok (.invokestatic 40, 3) := by decide +kernel
theorem dX5_copy_123 : dec mX5_copy 123 = .ok (.return_, 1) := by decide +kernel
end
section
theorem dX6_init_0 : dec mX6_init 0 = .ok (.aload_n 0, 1) := by decide +kernel
theorem dX6_init_1 : dec mX6_init 1 = .ok (.invokespecial 3, 3) := by decide +kernel
theorem dX6_init_4 : dec mX6_init 4 = .ok (.aload_n 0, 1) := by decide +kernel
theorem dX6_init_5 : dec mX6_init 5 = .ok (.bipush 120, 2) := by decide +kernel
theorem dX6_init_7 : dec mX6_init 7 = .ok (.newarray .char, 2) := by decide +kernel
theorem dX6_init_9 : dec mX6_init 9 = .ok (.putfield 9, 3) := by decide +kernel
theorem dX6_init_12 : dec mX6_init 12 = .ok (.return_, 1) := by decide +kernel
theorem dX6_isFull_0 : dec mX6_isFull 0 = .ok (.aload_n 0, 1) := by decide +kernel
theorem dX6_isFull_1 : dec mX6_isFull 1 = .ok (.getfield 15, 3) := by decide +kernel
theorem dX6_isFull_4 : dec mX6_isFull 4 = .ok (.bipush 120, 2) := by decide +kernel
theorem dX6_isFull_6 : dec mX6_isFull 6 = .ok (.if_icmp .lt 7, 3) := by decide +kernel
theorem dX6_isFull_9 : dec mX6_isFull 9 = .ok (.iconst 1, 1) := by decide +kernel
theorem dX6_isFull_10 : dec mX6_isFull 10 = .ok (.goto 4, 3) := by decide +kernel
theorem dX6_isFull_13 : dec mX6_isFull 13 = .ok (.iconst 0, 1) := by decide +kernel
theorem dX6_isFull_14 : dec mX6_isFull 14 = .ok (.ireturn, 1) := by decide +kernel
theorem dX6_add_0 : dec mX6_add 0 = .ok (.aload_n 0, 1) := by decide +kernel
theorem dX6_add_1 : dec mX6_add 1 = .ok (.getfield 15, 3) := by decide +kernel
theorem dX6_add_4 : dec mX6_add 4 = .ok (.ifCond .lt 36, 3) := by decide +kernel
theorem dX6_add_7 : dec mX6_add 7 = .ok (.aload_n 0, 1) := by decide +kernel
theorem dX6_add_8 : dec mX6_add 8 = .ok (.getfield 15, 3) := by decide +kernel
theorem dX6_add_11 : dec mX6_add 11 = .ok (.aload_n 0, 1) := by decide +kernel
theorem dX6_add_12 : dec mX6_add 12 = .ok (.getfield 9, 3) := by decide +kernel
theorem dX6_add_15 : dec mX6_add 15 = .ok (.arraylength, 1) := by decide +kernel
theorem dX6_add_16 : dec mX6_add 16 = .ok (.if_icmp .ge 24, 3) := by decide +kernel
theorem dX6_add_19 : dec mX6_add 19 = .ok (.aload_n 0, 1) := by decide +kernel
theorem dX6_add_20 : dec mX6_add 20 = .ok (.getfield 9, 3) := by decide +kernel
theorem dX6_add_23 : dec mX6_add 23 = .ok (.aload_n 0, 1) := by decide +kernel
theorem dX6_add_24 : dec mX6_add 24 = .ok (.getfield 15, 3) := by decide +kernel
theorem dX6_add_27 : dec mX6_add 27 = .ok (.iload_n 1, 1) := by decide +kernel
theorem dX6_add_28 : dec mX6_add 28 = .ok (.i2c, 1) := by decide +kernel
theorem dX6_add_29 : dec mX6_add 29 = .ok (.castore, 1) := by decide +kernel
theorem dX6_add_30 : dec mX6_add 30 = .ok (.aload_n 0, 1) := by decide +kernel
theorem dX6_add_31 : dec mX6_add 31 = .ok (.dup, 1) := by decide +kernel
theorem dX6_add_32 : dec mX6_add 32 = .ok (.getfield 15, 3) := by decide +kernel
theorem dX6_add_35 : dec mX6_add 35 = .ok (.iconst 1, 1) := by decide +kernel
theorem dX6_add_36 : dec mX6_add 36 = .ok (.iadd, 1) := by decide +kernel
theorem dX6_add_37 : dec mX6_add 37 = .ok (.putfield 15, 3) := by decide +kernel
theorem dX6_add_40 : dec mX6_add 40 = .ok (.return_, 1) := by decide +kernel
theorem dX6_signAt_0 : dec mX6_signAt 0 = .ok (.iload_n 1, 1) := by decide +kernel
theorem dX6_signAt_1 : dec mX6_signAt 1 = .ok (.ifCond .lt 29, 3) := by decide +kernel
theorem dX6_signAt_4 : dec mX6_signAt 4 = .ok (.iload_n 1, 1) := by decide +kernel
theorem dX6_signAt_5 : dec mX6_signAt 5 = .ok (.aload_n 0, 1) := by decide +kernel
theorem dX6_signAt_6 : dec mX6_signAt 6 = .ok (.getfield 15, 3) := by decide +kernel
theorem dX6_signAt_9 : dec mX6_signAt 9 = .ok (.if_icmp .ge 21, 3) := by decide +kernel
theorem dX6_signAt_12 : dec mX6_signAt 12 = .ok (.iload_n 1, 1) := by decide +kernel
theorem dX6_signAt_13 : dec mX6_signAt 13 = .ok (.aload_n 0, 1) := by decide +kernel
theorem dX6_signAt_14 : dec mX6_signAt 14 = .ok (.getfield 9, 3) := by decide +kernel
theorem dX6_signAt_17 : dec mX6_signAt 17 = .ok (.arraylength, 1) := by decide +kernel
theorem dX6_signAt_18 : dec mX6_signAt 18 = .ok (.if_icmp .ge 12, 3) := by decide +kernel
theorem dX6_signAt_21 : dec mX6_signAt 21 = .ok (.aload_n 0, 1) := by decide +kernel
theorem dX6_signAt_22 : dec mX6_signAt 22 = .ok (.getfield 9, 3) := by decide +kernel
theorem dX6_signAt_25 : dec mX6_signAt 25 = .ok (.iload_n 1, 1) := by decide +kernel
theorem dX6_signAt_26 : dec mX6_signAt 26 = .ok (.caload, 1) := by decide +kernel
theorem dX6_signAt_27 : dec mX6_signAt 27 = .ok (.goto 4, 3) := by decide +kernel
theorem dX6_signAt_30 : dec mX6_signAt 30 = .ok (.iconst (-1), 1) := by decide +kernel
theorem dX6_signAt_31 : dec mX6_signAt 31 = .ok (.ireturn, 1) := by decide +kernel
theorem dX6_digitAt_0 : dec mX6_digitAt 0 = .ok (.aload_n 0, 1) := by decide +kernel
theorem dX6_digitAt_1 : dec mX6_digitAt 1 = .ok (.iload_n 1, 1) := by decide +kernel
theorem dX6_digitAt_2 : dec mX6_digitAt 2 = .ok (.invokevirtual 19, 3) := by decide +kernel
theorem dX6_digitAt_5 : dec mX6_digitAt 5 = .ok (.bipush 48, 2) := by decide +kernel
theorem dX6_digitAt_7 : dec mX6_digitAt 7 = .ok (.isub, 1) := by decide +kernel
theorem dX6_digitAt_8 : dec mX6_digitAt 8 = .ok (.ireturn, 1) := by decide +kernel
theorem dX6_twoDigitsAt_0 : dec mX6_twoDigitsAt 0 = .ok (.bipush 10, 2) := by decide +kernel
theorem dX6_twoDigitsAt_2 : dec mX6_twoDigitsAt 2 = .ok (.aload_n 0, 1) := by decide +kernel
theorem dX6_twoDigitsAt_3 : dec mX6_twoDigitsAt 3 = .ok (.iload_n 1, 1) := by decide +kernel
theorem dX6_twoDigitsAt_4 : dec mX6_twoDigitsAt 4 = .ok (.invokevirtual 23, 3) := by decide +kernel
theorem dX6_twoDigitsAt_7 : dec mX6_twoDigitsAt 7 = .ok (.imul, 1) := by decide +kernel
theorem dX6_twoDigitsAt_8 : dec mX6_twoDigitsAt 8 = .ok (.aload_n 0, 1) := by decide +kernel
theorem dX6_twoDigitsAt_9 : dec mX6_twoDigitsAt 9 = .ok (.iload_n 1, 1) := by decide +kernel
theorem dX6_twoDigitsAt_10 : dec mX6_twoDigitsAt 10 = .ok (.iconst 1, 1) := by decide +kernel
theorem dX6_twoDigitsAt_11 : dec mX6_twoDigitsAt 11 = .ok (.iadd, 1) := by decide +kernel
theorem dX6_twoDigitsAt_12 : dec mX6_twoDigitsAt 12 = .ok (.invokevirtual 23, 3) := by decide +kernel
theorem dX6_twoDigitsAt_15 : dec mX6_twoDigitsAt 15 = .ok (.iadd, 1) := by decide +kernel
theorem dX6_twoDigitsAt_16 : dec mX6_twoDigitsAt 16 = .ok (.ireturn, 1) := by decide +kernel
theorem dX6_firstError_0 : dec mX6_firstError 0 = .ok (.aload_n 0, 1) := by decide +kernel
theorem dX6_firstError_1 : dec mX6_firstError 1 = .ok (.iconst 0, 1) := by decide +kernel
theorem dX6_firstError_2 : dec mX6_firstError 2 = .ok (.invokevirtual 19, 3) := by decide +kernel
theorem dX6_firstError_5 : dec mX6_firstError 5 = .ok (.bipush 68, 2) := by decide +kernel
theorem dX6_firstError_7 : dec mX6_firstError 7 = .ok (.if_icmp .eq 5, 3) := by decide +kernel
theorem dX6_firstError_10 : dec mX6_firstError 10 = .ok (.iconst 0, 1) := by decide +kernel
theorem dX6_firstError_11 : dec mX6_firstError 11 = .ok (.ireturn, 1) := by decide +kernel
theorem dX6_firstError_12 : dec mX6_firstError 12 = .ok (.aload_n 0, 1) := by decide +kernel
theorem dX6_firstError_13 : dec mX6_firstError 13 = .ok (.ldc 26, 2) := by decide +kernel
theorem dX6_firstError_15 : dec mX6_firstError 15 = .ok (.iconst 0, 1) := by decide +kernel
theorem dX6_firstError_16 : dec mX6_firstError 16 = .ok (.invokevirtual 28, 3) := by decide +kernel
theorem dX6_firstError_19 : dec mX6_firstError 19 = .ok (.istore_n 1, 1) := by decide +kernel
theorem dX6_firstError_20 : dec mX6_firstError 20 = .ok (.iconst 3, 1) := by decide +kernel
theorem dX6_firstError_21 : dec mX6_firstError 21 = .ok (.istore_n 2, 1) := by decide +kernel
theorem dX6_firstError_22 : dec mX6_firstError 22 = .ok (.iconst 0, 1) := by decide +kernel
theorem dX6_firstError_23 : dec mX6_firstError 23 = .ok (.istore_n 3, 1) := by decide +kernel
theorem dX6_firstError_24 : dec mX6_firstError 24 = .ok (.iload_n 3, 1) := by decide +kernel
theorem dX6_firstError_25 : dec mX6_firstError 25 = .ok (.bipush 120, 2) := by decide +kernel
theorem dX6_firstError_27 : dec mX6_firstError 27 = .ok (.if_icmp .ge 60, 3) := by decide +kernel
theorem dX6_firstError_30 : dec mX6_firstError 30 = .ok (.iload_n 1, 1) := by decide +kernel
theorem dX6_firstError_31 : dec mX6_firstError 31 = .ok (.iconst (-1), 1) := by decide +kernel
theorem dX6_firstError_32 : dec mX6_firstError 32 = .ok (.if_icmp .ne 55, 3) := by decide +kernel
theorem dX6_firstError_35 : dec mX6_firstError 35 = .ok (.iload_n 2, 1) := by decide +kernel
theorem dX6_firstError_36 : dec mX6_firstError 36 = .ok (.aload_n 0, 1) := by decide +kernel
theorem dX6_firstError_37 : dec mX6_firstError 37 = .ok (.getfield 15, 3) := by decide +kernel
theorem dX6_firstError_40 : dec mX6_firstError 40 = .ok (.if_icmp .ge 47, 3) := by decide +kernel
theorem dX6_firstError_43 : dec mX6_firstError 43 = .ok (.aload_n 0, 1) := by decide +kernel
theorem dX6_firstError_44 : dec mX6_firstError 44 = .ok (.iload_n 2, 1) := by decide +kernel
theorem dX6_firstError_45 : dec mX6_firstError 45 = .ok (.invokevirtual 19, 3) := by decide +kernel
theorem dX6_firstError_48 : dec mX6_firstError 48 = .ok (.invokestatic 32, 3) := by decide +kernel
theorem dX6_firstError_51 : dec mX6_firstError 51 = .ok (.astore 4, 2) := by decide +kernel
theorem dX6_firstError_53 : dec mX6_firstError 53 = .ok (.aload 4, 2) := by decide +kernel
theorem dX6_firstError_55 : dec mX6_firstError 55 = .ok (.invokevirtual 36, 3) := by decide +kernel
theorem dX6_firstError_58 : dec mX6_firstError 58 = .ok (.ifCond .eq 7, 3) := by decide +kernel
theorem dX6_firstError_61 : dec mX6_firstError 61 = .ok (.iload_n 2, 1) := by decide +kernel
theorem dX6_firstError_62 : dec mX6_firstError 62 = .ok (.goto 10, 3) := by decide +kernel
theorem dX6_firstError_65 : dec mX6_firstError 65 = .ok (.aload_n 0, 1) := by decide +kernel
theorem dX6_firstError_66 : dec mX6_firstError 66 = .ok (.aload 4, 2) := by decide +kernel
theorem dX6_firstError_68 : dec mX6_firstError 68 = .ok (.iload_n 2, 1) := by decide +kernel
theorem dX6_firstError_69 : dec mX6_firstError 69 = .ok (.invokevirtual 28, 3) := by decide +kernel
theorem dX6_firstError_72 : dec mX6_firstError 72 = .ok (.istore_n 1, 1) := by decide +kernel
theorem dX6_firstError_73 : dec mX6_firstError 73 = .ok (.iload_n 2, 1) := by decide +kernel
theorem dX6_firstError_74 : dec mX6_firstError 74 = .ok (.aload 4, 2) := by decide +kernel
theorem dX6_firstError_76 : dec mX6_firstError 76 = .ok (.invokevirtual 42, 3) := by decide +kernel
theorem dX6_firstError_79 : dec mX6_firstError 79 = .ok (.iadd, 1) := by decide +kernel
theorem dX6_firstError_80 : dec mX6_firstError 80 = .ok (.istore_n 2, 1) := by decide +kernel
theorem dX6_firstError_81 : dec mX6_firstError 81 = .ok (.iinc 3 1, 3) := by decide +kernel
theorem dX6_firstError_84 : dec mX6_firstError 84 = .ok (.goto (-60), 3) := by decide +kernel
theorem dX6_firstError_87 : dec mX6_firstError 87 = .ok (.iload_n 1, 1) := by decide +kernel
theorem dX6_firstError_88 : dec mX6_firstError 88 = .ok (.ireturn, 1) := by decide +kernel
theorem dX6_firstWrong_0 : dec mX6_firstWrong 0 = .ok (.iconst 1, 1) := by decide +kernel
theorem dX6_firstWrong_1 : dec mX6_firstWrong 1 = .ok (.istore_n 3, 1) := by decide +kernel
theorem dX6_firstWrong_2 : dec mX6_firstWrong 2 = .ok (.iload_n 3, 1) := by decide +kernel
theorem dX6_firstWrong_3 : dec mX6_firstWrong 3 = .ok (.aload_n 1, 1) := by decide +kernel
theorem dX6_firstWrong_4 : dec mX6_firstWrong 4 = .ok (.invokevirtual 42, 3) := by decide +kernel
theorem dX6_firstWrong_7 : dec mX6_firstWrong 7 = .ok (.if_icmp .ge 40, 3) := by decide +kernel
theorem dX6_firstWrong_10 : dec mX6_firstWrong 10 = .ok (.aload_n 1, 1) := by decide +kernel
theorem dX6_firstWrong_11 : dec mX6_firstWrong 11 = .ok (.iload_n 3, 1) := by decide +kernel
theorem dX6_firstWrong_12 : dec mX6_firstWrong 12 = .ok (.invokevirtual 45, 3) := by decide +kernel
theorem dX6_firstWrong_15 : dec mX6_firstWrong 15 = .ok (.aload_n 0, 1) := by decide +kernel
theorem dX6_firstWrong_16 : dec mX6_firstWrong 16 = .ok (.iload_n 2, 1) := by decide +kernel
theorem dX6_firstWrong_17 : dec mX6_firstWrong 17 = .ok (.iload_n 3, 1) := by decide +kernel
theorem dX6_firstWrong_18 : dec mX6_firstWrong 18 = .ok (.iadd, 1) := by decide +kernel
theorem dX6_firstWrong_19 : dec mX6_firstWrong 19 = .ok (.invokevirtual 23, 3) := by decide +kernel
theorem dX6_firstWrong_22 : dec mX6_firstWrong 22 = .ok (.aload_n 0, 1) := by decide +kernel
theorem dX6_firstWrong_23 : dec mX6_firstWrong 23 = .ok (.iload_n 2, 1) := by decide +kernel
theorem dX6_firstWrong_24 : dec mX6_firstWrong 24 = .ok (.iload_n 3, 1) := by decide +kernel
theorem dX6_firstWrong_25 : dec mX6_firstWrong 25 = .ok (.iadd, 1) := by decide +kernel
theorem dX6_firstWrong_26 : dec mX6_firstWrong 26 = .ok (.iconst 1, 1) := by decide +kernel
theorem dX6_firstWrong_27 : dec mX6_firstWrong 27 = .ok (.isub, 1) := by decide +kernel
theorem dX6_firstWrong_28 : dec mX6_firstWrong 28 = .ok (.invokevirtual 23, 3) := by decide +kernel
theorem dX6_firstWrong_31 : dec mX6_firstWrong 31 = .ok (.invokestatic 49, 3) := by decide +kernel
theorem dX6_firstWrong_34 : dec mX6_firstWrong 34 = .ok (.ifCond .ne 7, 3) := by decide +kernel
theorem dX6_firstWrong_37 : dec mX6_firstWrong 37 = .ok (.iload_n 2, 1) := by decide +kernel
theorem dX6_firstWrong_38 : dec mX6_firstWrong 38 = .ok (.iload_n 3, 1) := by decide +kernel
theorem dX6_firstWrong_39 : dec mX6_firstWrong 39 = .ok (.iadd, 1) := by decide +kernel
theorem dX6_firstWrong_40 : dec mX6_firstWrong 40 = .ok (.ireturn, 1) := by decide +kernel
theorem dX6_firstWrong_41 : dec mX6_firstWrong 41 = .ok (.iinc 3 1, 3) := by decide +kernel
theorem dX6_firstWrong_44 : dec mX6_firstWrong 44 = .ok (.goto (-42), 3) := by decide +kernel
theorem dX6_firstWrong_47 : dec mX6_firstWrong 47 = .ok (.iconst (-1), 1) := by decide +kernel
theorem dX6_firstWrong_48 : dec mX6_firstWrong 48 = .ok (.ireturn, 1) := by decide +kernel
theorem dX6_formOf_0 : dec mX6_formOf 0 = .ok (.iload_n 0, 1) := by decide +kernel
theorem dX6_formOf_1 : dec mX6_formOf 1 = .ok (.tableswitch 115 98 116 #[103, 115, 115, 115, 94, 115, 106, 112, 115, 115, 109, 115, 115, 115, 91, 115, 115, 100, 97], 91) := by decide +kernel
theorem dX6_formOf_92 : dec mX6_formOf 92 = .ok (.ldc 53, 2) := by decide +kernel
theorem dX6_formOf_94 : dec mX6_formOf 94 = .ok (.areturn, 1) := by decide +kernel
theorem dX6_formOf_95 : dec mX6_formOf 95 = .ok (.ldc 55, 2) := by decide +kernel
theorem dX6_formOf_97 : dec mX6_formOf 97 = .ok (.areturn, 1) := by decide +kernel
theorem dX6_formOf_98 : dec mX6_formOf 98 = .ok (.ldc 57, 2) := by decide +kernel
theorem dX6_formOf_100 : dec mX6_formOf 100 = .ok (.areturn, 1) := by decide +kernel
theorem dX6_formOf_101 : dec mX6_formOf 101 = .ok (.ldc 59, 2) := by decide +kernel
theorem dX6_formOf_103 : dec mX6_formOf 103 = .ok (.areturn, 1) := by decide +kernel
theorem dX6_formOf_104 : dec mX6_formOf 104 = .ok (.ldc 61, 2) := by decide +kernel
theorem dX6_formOf_106 : dec mX6_formOf 106 = .ok (.areturn, 1) := by decide +kernel
theorem dX6_formOf_107 : dec mX6_formOf 107 = .ok (.ldc 63, 2) := by decide +kernel
theorem dX6_formOf_109 : dec mX6_formOf 109 = .ok (.areturn, 1) := by decide +kernel
theorem dX6_formOf_110 : dec mX6_formOf 110 = .ok (.ldc 65, 2) := by decide +kernel
theorem dX6_formOf_112 : dec mX6_formOf 112 = .ok (.areturn, 1) := by decide +kernel
theorem dX6_formOf_113 : dec mX6_formOf 113 = .ok (.ldc 67, 2) := by decide +kernel
theorem dX6_formOf_115 : dec mX6_formOf 115 = .ok (.areturn, 1) := by decide +kernel
theorem dX6_formOf_116 : dec mX6_formOf 116 = .ok (.ldc 69, 2) := by decide +kernel
theorem dX6_formOf_118 : dec mX6_formOf 118 = .ok (.areturn, 1) := by decide +kernel
theorem dX6_suits_0 : dec mX6_suits 0 = .ok (.iload_n 1, 1) := by decide +kernel
theorem dX6_suits_1 : dec mX6_suits 1 = .ok (.ifCond .lt 9, 3) := by decide +kernel
theorem dX6_suits_4 : dec mX6_suits 4 = .ok (.iload_n 1, 1) := by decide +kernel
theorem dX6_suits_5 : dec mX6_suits 5 = .ok (.bipush 9, 2) := by decide +kernel
theorem dX6_suits_7 : dec mX6_suits 7 = .ok (.if_icmp .le 5, 3) := by decide +kernel
theorem dX6_suits_10 : dec mX6_suits 10 = .ok (.iconst 0, 1) := by decide +kernel
theorem dX6_suits_11 : dec mX6_suits 11 = .ok (.ireturn, 1) := by decide +kernel
theorem dX6_suits_12 : dec mX6_suits 12 = .ok (.iload_n 0, 1) := by decide +kernel
theorem dX6_suits_13 : dec mX6_suits 13 = .ok (.lookupswitch 225 #[(67, 182), (75, 155), (89, 128), (99, 193), (107, 166), (110, 83), (115, 100), (120, 116), (121, 139)], 83) := by decide +kernel
theorem dX6_suits_96 : dec mX6_suits 96 = .ok (.iload_n 1, 1) := by decide +kernel
theorem dX6_suits_97 : dec mX6_suits 97 = .ok (.iconst 2, 1) := by decide +kernel
theorem dX6_suits_98 : dec mX6_suits 98 = .ok (.if_icmp .lt 13, 3) := by decide +kernel
theorem dX6_suits_101 : dec mX6_suits 101 = .ok (.iload_n 1, 1) := by decide +kernel
theorem dX6_suits_102 : dec mX6_suits 102 = .ok (.bipush 6, 2) := by decide +kernel
theorem dX6_suits_104 : dec mX6_suits 104 = .ok (.if_icmp .gt 7, 3) := by decide +kernel
theorem dX6_suits_107 : dec mX6_suits 107 = .ok (.iconst 1, 1) := by decide +kernel
theorem dX6_suits_108 : dec mX6_suits 108 = .ok (.goto 4, 3) := by decide +kernel
theorem dX6_suits_111 : dec mX6_suits 111 = .ok (.iconst 0, 1) := by decide +kernel
theorem dX6_suits_112 : dec mX6_suits 112 = .ok (.ireturn, 1) := by decide +kernel
theorem dX6_suits_113 : dec mX6_suits 113 = .ok (.iload_n 1, 1) := by decide +kernel
theorem dX6_suits_114 : dec mX6_suits 114 = .ok (.iconst 1, 1) := by decide +kernel
theorem dX6_suits_115 : dec mX6_suits 115 = .ok (.if_icmp .lt 12, 3) := by decide +kernel
theorem dX6_suits_118 : dec mX6_suits 118 = .ok (.iload_n 1, 1) := by decide +kernel
theorem dX6_suits_119 : dec mX6_suits 119 = .ok (.iconst 2, 1) := by decide +kernel
theorem dX6_suits_120 : dec mX6_suits 120 = .ok (.if_icmp .gt 7, 3) := by decide +kernel
theorem dX6_suits_123 : dec mX6_suits 123 = .ok (.iconst 1, 1) := by decide +kernel
theorem dX6_suits_124 : dec mX6_suits 124 = .ok (.goto 4, 3) := by decide +kernel
theorem dX6_suits_127 : dec mX6_suits 127 = .ok (.iconst 0, 1) := by decide +kernel
theorem dX6_suits_128 : dec mX6_suits 128 = .ok (.ireturn, 1) := by decide +kernel
theorem dX6_suits_129 : dec mX6_suits 129 = .ok (.iload_n 1, 1) := by decide +kernel
theorem dX6_suits_130 : dec mX6_suits 130 = .ok (.bipush 7, 2) := by decide +kernel
theorem dX6_suits_132 : dec mX6_suits 132 = .ok (.if_icmp .gt 7, 3) := by decide +kernel
theorem dX6_suits_135 : dec mX6_suits 135 = .ok (.iconst 1, 1) := by decide +kernel
theorem dX6_suits_136 : dec mX6_suits 136 = .ok (.goto 4, 3) := by decide +kernel
theorem dX6_suits_139 : dec mX6_suits 139 = .ok (.iconst 0, 1) := by decide +kernel
theorem dX6_suits_140 : dec mX6_suits 140 = .ok (.ireturn, 1) := by decide +kernel
theorem dX6_suits_141 : dec mX6_suits 141 = .ok (.iload_n 1, 1) := by decide +kernel
theorem dX6_suits_142 : dec mX6_suits 142 = .ok (.iconst 1, 1) := by decide +kernel
theorem dX6_suits_143 : dec mX6_suits 143 = .ok (.if_icmp .gt 7, 3) := by decide +kernel
theorem dX6_suits_146 : dec mX6_suits 146 = .ok (.iconst 1, 1) := by decide +kernel
theorem dX6_suits_147 : dec mX6_suits 147 = .ok (.goto 4, 3) := by decide +kernel
theorem dX6_suits_150 : dec mX6_suits 150 = .ok (.iconst 0, 1) := by decide +kernel
theorem dX6_suits_151 : dec mX6_suits 151 = .ok (.ireturn, 1) := by decide +kernel
theorem dX6_suits_152 : dec mX6_suits 152 = .ok (.iload_n 2, 1) := by decide +kernel
theorem dX6_suits_153 : dec mX6_suits 153 = .ok (.iconst 1, 1) := by decide +kernel
theorem dX6_suits_154 : dec mX6_suits 154 = .ok (.if_icmp .lt 8, 3) := by decide +kernel
theorem dX6_suits_157 : dec mX6_suits 157 = .ok (.iload_n 1, 1) := by decide +kernel
theorem dX6_suits_158 : dec mX6_suits 158 = .ok (.iconst 3, 1) := by decide +kernel
theorem dX6_suits_159 : dec mX6_suits 159 = .ok (.if_icmp .gt 7, 3) := by decide +kernel
theorem dX6_suits_162 : dec mX6_suits 162 = .ok (.iconst 1, 1) := by decide +kernel
theorem dX6_suits_163 : dec mX6_suits 163 = .ok (.goto 4, 3) := by decide +kernel
theorem dX6_suits_166 : dec mX6_suits 166 = .ok (.iconst 0, 1) := by decide +kernel
theorem dX6_suits_167 : dec mX6_suits 167 = .ok (.ireturn, 1) := by decide +kernel
theorem dX6_suits_168 : dec mX6_suits 168 = .ok (.iload_n 1, 1) := by decide +kernel
theorem dX6_suits_169 : dec mX6_suits 169 = .ok (.iconst 5, 1) := by decide +kernel
theorem dX6_suits_170 : dec mX6_suits 170 = .ok (.if_icmp .gt 7, 3) := by decide +kernel
theorem dX6_suits_173 : dec mX6_suits 173 = .ok (.iconst 1, 1) := by decide +kernel
theorem dX6_suits_174 : dec mX6_suits 174 = .ok (.goto 4, 3) := by decide +kernel
theorem dX6_suits_177 : dec mX6_suits 177 = .ok (.iconst 0, 1) := by decide +kernel
theorem dX6_suits_178 : dec mX6_suits 178 = .ok (.ireturn, 1) := by decide +kernel
theorem dX6_suits_179 : dec mX6_suits 179 = .ok (.iload_n 2, 1) := by decide +kernel
theorem dX6_suits_180 : dec mX6_suits 180 = .ok (.iconst 5, 1) := by decide +kernel
theorem dX6_suits_181 : dec mX6_suits 181 = .ok (.if_icmp .lt 8, 3) := by decide +kernel
theorem dX6_suits_184 : dec mX6_suits 184 = .ok (.iload_n 1, 1) := by decide +kernel
theorem dX6_suits_185 : dec mX6_suits 185 = .ok (.iconst 5, 1) := by decide +kernel
theorem dX6_suits_186 : dec mX6_suits 186 = .ok (.if_icmp .gt 7, 3) := by decide +kernel
theorem dX6_suits_189 : dec mX6_suits 189 = .ok (.iconst 1, 1) := by decide +kernel
theorem dX6_suits_190 : dec mX6_suits 190 = .ok (.goto 4, 3) := by decide +kernel
theorem dX6_suits_193 : dec mX6_suits 193 = .ok (.iconst 0, 1) := by decide +kernel
theorem dX6_suits_194 : dec mX6_suits 194 = .ok (.ireturn, 1) := by decide +kernel
theorem dX6_suits_195 : dec mX6_suits 195 = .ok (.iload_n 1, 1) := by decide +kernel
theorem dX6_suits_196 : dec mX6_suits 196 = .ok (.iconst 2, 1) := by decide +kernel
theorem dX6_suits_197 : dec mX6_suits 197 = .ok (.if_icmp .gt 7, 3) := by decide +kernel
theorem dX6_suits_200 : dec mX6_suits 200 = .ok (.iconst 1, 1) := by decide +kernel
theorem dX6_suits_201 : dec mX6_suits 201 = .ok (.goto 4, 3) := by decide +kernel
theorem dX6_suits_204 : dec mX6_suits 204 = .ok (.iconst 0, 1) := by decide +kernel
theorem dX6_suits_205 : dec mX6_suits 205 = .ok (.ireturn, 1) := by decide +kernel
theorem dX6_suits_206 : dec mX6_suits 206 = .ok (.iload_n 2, 1) := by decide +kernel
theorem dX6_suits_207 : dec mX6_suits 207 = .ok (.ifCond .ne 16, 3) := by decide +kernel
theorem dX6_suits_210 : dec mX6_suits 210 = .ok (.iload_n 1, 1) := by decide +kernel
theorem dX6_suits_211 : dec mX6_suits 211 = .ok (.iconst 1, 1) := by decide +kernel
theorem dX6_suits_212 : dec mX6_suits 212 = .ok (.if_icmp .lt 7, 3) := by decide +kernel
theorem dX6_suits_215 : dec mX6_suits 215 = .ok (.iconst 1, 1) := by decide +kernel
theorem dX6_suits_216 : dec mX6_suits 216 = .ok (.goto 21, 3) := by decide +kernel
theorem dX6_suits_219 : dec mX6_suits 219 = .ok (.iconst 0, 1) := by decide +kernel
theorem dX6_suits_220 : dec mX6_suits 220 = .ok (.goto 17, 3) := by decide +kernel
theorem dX6_suits_223 : dec mX6_suits 223 = .ok (.iload_n 2, 1) := by decide +kernel
theorem dX6_suits_224 : dec mX6_suits 224 = .ok (.iconst 1, 1) := by decide +kernel
theorem dX6_suits_225 : dec mX6_suits 225 = .ok (.if_icmp .eq 7, 3) := by decide +kernel
theorem dX6_suits_228 : dec mX6_suits 228 = .ok (.iload_n 1, 1) := by decide +kernel
theorem dX6_suits_229 : dec mX6_suits 229 = .ok (.ifCond .ne 7, 3) := by decide +kernel
theorem dX6_suits_232 : dec mX6_suits 232 = .ok (.iconst 1, 1) := by decide +kernel
theorem dX6_suits_233 : dec mX6_suits 233 = .ok (.goto 4, 3) := by decide +kernel
theorem dX6_suits_236 : dec mX6_suits 236 = .ok (.iconst 0, 1) := by decide +kernel
theorem dX6_suits_237 : dec mX6_suits 237 = .ok (.ireturn, 1) := by decide +kernel
theorem dX6_suits_238 : dec mX6_suits 238 = .ok (.iconst 1, 1) := by decide +kernel
theorem dX6_suits_239 : dec mX6_suits 239 = .ok (.ireturn, 1) := by decide +kernel
theorem dX7_init_0 : dec mX7_init 0 = .ok (.aload_n 0, 1) := by decide +kernel
theorem dX7_init_1 : dec mX7_init 1 = .ok (.invokespecial 1, 3) := by decide +kernel
theorem dX7_init_4 : dec mX7_init 4 = .ok (.aload_n 0, 1) := by decide +kernel
theorem dX7_init_5 : dec mX7_init 5 = .ok (.new 7, 3) := by decide +kernel
theorem dX7_init_8 : dec mX7_init 8 = .ok (.dup, 1) := by decide +kernel
theorem dX7_init_9 : dec mX7_init 9 = .ok (.invokespecial 9, 3) := by decide +kernel
theorem dX7_init_12 : dec mX7_init 12 = .ok (.putfield 10, 3) := by decide +kernel
theorem dX7_init_15 : dec mX7_init 15 = .ok (.aload_n 0, 1) := by decide +kernel
theorem dX7_init_16 : dec mX7_init 16 = .ok (.new 7, 3) := by decide +kernel
theorem dX7_init_19 : dec mX7_init 19 = .ok (.dup, 1) := by decide +kernel
theorem dX7_init_20 : dec mX7_init 20 = .ok (.invokespecial 9, 3) := by decide +kernel
theorem dX7_init_23 : dec mX7_init 23 = .ok (.putfield 16, 3) := by decide +kernel
theorem dX7_init_26 : dec mX7_init 26 = .ok (.aload_n 0, 1) := by decide +kernel
theorem dX7_init_27 : dec mX7_init 27 = .ok (.new 19, 3) := by decide +kernel
theorem dX7_init_30 : dec mX7_init 30 = .ok (.dup, 1) := by decide +kernel
theorem dX7_init_31 : dec mX7_init 31 = .ok (.invokespecial 21, 3) := by decide +kernel
theorem dX7_init_34 : dec mX7_init 34 = .ok (.putfield 22, 3) := by decide +kernel
theorem dX7_init_37 : dec mX7_init 37 = .ok (.aload_n 0, 1) := by decide +kernel
theorem dX7_init_38 : dec mX7_init 38 = .ok (.new 26, 3) := by decide +kernel
theorem dX7_init_41 : dec mX7_init 41 = .ok (.dup, 1) := by decide +kernel
theorem dX7_init_42 : dec mX7_init 42 = .ok (.invokespecial 28, 3) := by decide +kernel
theorem dX7_init_45 : dec mX7_init 45 = .ok (.putfield 29, 3) := by decide +kernel
theorem dX7_init_48 : dec mX7_init 48 = .ok (.aload_n 0, 1) := by decide +kernel
theorem dX7_init_49 : dec mX7_init 49 = .ok (.new 33, 3) := by decide +kernel
theorem dX7_init_52 : dec mX7_init 52 = .ok (.dup, 1) := by decide +kernel
theorem dX7_init_53 : dec mX7_init 53 = .ok (.invokespecial 35, 3) := by decide +kernel
theorem dX7_init_56 : dec mX7_init 56 = .ok (.putfield 36, 3) := by decide +kernel
theorem dX7_init_59 : dec mX7_init 59 = .ok (.aload_n 0, 1) := by decide +kernel
theorem dX7_init_60 : dec mX7_init 60 = .ok (.getfield 10, 3) := by decide +kernel
theorem dX7_init_63 : dec mX7_init 63 = .ok (.iconst 3, 1) := by decide +kernel
theorem dX7_init_64 : dec mX7_init 64 = .ok (.iconst 1, 1) := by decide +kernel
theorem dX7_init_65 : dec mX7_init 65 = .ok (.invokevirtual 40, 3) := by decide +kernel
theorem dX7_init_68 : dec mX7_init 68 = .ok (.return_, 1) := by decide +kernel
theorem dX7_append_0 : dec mX7_append 0 = .ok (.iload_n 1, 1) := by decide +kernel
theorem dX7_append_1 : dec mX7_append 1 = .ok (.ifCond .lt 10, 3) := by decide +kernel
theorem dX7_append_4 : dec mX7_append 4 = .ok (.iload_n 1, 1) := by decide +kernel
theorem dX7_append_5 : dec mX7_append 5 = .ok (.sipush 255, 3) := by decide +kernel
theorem dX7_append_8 : dec mX7_append 8 = .ok (.if_icmp .le 13, 3) := by decide +kernel
theorem dX7_append_11 : dec mX7_append 11 = .ok (.new 44, 3) := by decide +kernel
theorem dX7_append_14 : dec mX7_append 14 = .ok (.dup, 1) := by decide +kernel
theorem dX7_append_15 : dec mX7_append 15 = .ok (.ldc 46, 2) := by decide +kernel
theorem dX7_append_17 : dec mX7_append 17 = .ok (.invokespecial 48, 3) := by decide +kernel
theorem dX7_append_20 : dec mX7_append 20 = .ok (.athrow, 1) := by decide +kernel
theorem dX7_append_21 : dec mX7_append 21 = .ok (.aload_n 0, 1) := by decide +kernel
theorem dX7_append_22 : dec mX7_append 22 = .ok (.getfield 36, 3) := by decide +kernel
theorem dX7_append_25 : dec mX7_append 25 = .ok (.invokevirtual 51, 3) := by decide +kernel
theorem dX7_append_28 : dec mX7_append 28 = .ok (.ifCond .eq 13, 3) := by decide +kernel
theorem dX7_append_31 : dec mX7_append 31 = .ok (.new 55, 3) := by decide +kernel
theorem dX7_append_34 : dec mX7_append 34 = .ok (.dup, 1) := by decide +kernel
theorem dX7_append_35 : dec mX7_append 35 = .ok (.ldc 57, 2) := by decide +kernel
theorem dX7_append_37 : dec mX7_append 37 = .ok (.invokespecial 59, 3) := by decide +kernel
theorem dX7_append_40 : dec mX7_append 40 = .ok (.athrow, 1) := by decide +kernel
theorem dX7_append_41 : dec mX7_append 41 = .ok (.aload_n 0, 1) := by decide +kernel
theorem dX7_append_42 : dec mX7_append 42 = .ok (.getfield 36, 3) := by decide +kernel
theorem dX7_append_45 : dec mX7_append 45 = .ok (.iload_n 1, 1) := by decide +kernel
theorem dX7_append_46 : dec mX7_append 46 = .ok (.invokevirtual 60, 3) := by decide +kernel
theorem dX7_append_49 : dec mX7_append 49 = .ok (.aload_n 0, 1) := by decide +kernel
theorem dX7_append_50 : dec mX7_append 50 = .ok (.getfield 36, 3) := by decide +kernel
theorem dX7_append_53 : dec mX7_append 53 = .ok (.getfield 64, 3) := by decide +kernel
theorem dX7_append_56 : dec mX7_append 56 = .ok (.ireturn, 1) := by decide +kernel
theorem dX7_clearText_0 : dec mX7_clearText 0 = .ok (.aload_n 0, 1) := by decide +kernel
theorem dX7_clearText_1 : dec mX7_clearText 1 = .ok (.getfield 36, 3) := by decide +kernel
theorem dX7_clearText_4 : dec mX7_clearText 4 = .ok (.getfield 64, 3) := by decide +kernel
theorem dX7_clearText_7 : dec mX7_clearText 7 = .ok (.istore_n 1, 1) := by decide +kernel
theorem dX7_clearText_8 : dec mX7_clearText 8 = .ok (.aload_n 0, 1) := by decide +kernel
theorem dX7_clearText_9 : dec mX7_clearText 9 = .ok (.getfield 36, 3) := by decide +kernel
theorem dX7_clearText_12 : dec mX7_clearText 12 = .ok (.iconst 0, 1) := by decide +kernel
theorem dX7_clearText_13 : dec mX7_clearText 13 = .ok (.putfield 64, 3) := by decide +kernel
theorem dX7_clearText_16 : dec mX7_clearText 16 = .ok (.iload_n 1, 1) := by decide +kernel
theorem dX7_clearText_17 : dec mX7_clearText 17 = .ok (.ireturn, 1) := by decide +kernel
theorem dX7_errorPosition_0 : dec mX7_errorPosition 0 = .ok (.aload_n 0, 1) := by decide +kernel
theorem dX7_errorPosition_1 : dec mX7_errorPosition 1 = .ok (.getfield 36, 3) := by decide +kernel
theorem dX7_errorPosition_4 : dec mX7_errorPosition 4 = .ok (.invokevirtual 68, 3) := by decide +kernel
theorem dX7_errorPosition_7 : dec mX7_errorPosition 7 = .ok (.ireturn, 1) := by decide +kernel
theorem dX7_load_0 : dec mX7_load 0 = .ok (.aload_n 0, 1) := by decide +kernel
theorem dX7_load_1 : dec mX7_load 1 = .ok (.getfield 36, 3) := by decide +kernel
theorem dX7_load_4 : dec mX7_load 4 = .ok (.invokevirtual 68, 3) := by decide +kernel
theorem dX7_load_7 : dec mX7_load 7 = .ok (.iconst (-1), 1) := by decide +kernel
theorem dX7_load_8 : dec mX7_load 8 = .ok (.if_icmp .eq 13, 3) := by decide +kernel
theorem dX7_load_11 : dec mX7_load 11 = .ok (.new 55, 3) := by decide +kernel
theorem dX7_load_14 : dec mX7_load 14 = .ok (.dup, 1) := by decide +kernel
theorem dX7_load_15 : dec mX7_load 15 = .ok (.ldc 72, 2) := by decide +kernel
theorem dX7_load_17 : dec mX7_load 17 = .ok (.invokespecial 59, 3) := by decide +kernel
theorem dX7_load_20 : dec mX7_load 20 = .ok (.athrow, 1) := by decide +kernel
theorem dX7_load_21 : dec mX7_load 21 = .ok (.aload_n 0, 1) := by decide +kernel
theorem dX7_load_22 : dec mX7_load 22 = .ok (.getfield 22, 3) := by decide +kernel
theorem dX7_load_25 : dec mX7_load 25 = .ok (.invokevirtual 74, 3) := by decide +kernel
theorem dX7_load_28 : dec mX7_load 28 = .ok (.aload_n 0, 1) := by decide +kernel
theorem dX7_load_29 : dec mX7_load 29 = .ok (.getfield 29, 3) := by decide +kernel
theorem dX7_load_32 : dec mX7_load 32 = .ok (.invokevirtual 77, 3) := by decide +kernel
theorem dX7_load_35 : dec mX7_load 35 = .ok (.aload_n 0, 1) := by decide +kernel
theorem dX7_load_36 : dec mX7_load 36 = .ok (.getfield 10, 3) := by decide +kernel
theorem dX7_load_39 : dec mX7_load 39 = .ok (.aload_n 0, 1) := by decide +kernel
theorem dX7_load_40 : dec mX7_load 40 = .ok (.getfield 36, 3) := by decide +kernel
theorem dX7_load_43 : dec mX7_load 43 = .ok (.iconst 1, 1) := by decide +kernel
theorem dX7_load_44 : dec mX7_load 44 = .ok (.invokevirtual 80, 3) := by decide +kernel
theorem dX7_load_47 : dec mX7_load 47 = .ok (.aload_n 0, 1) := by decide +kernel
theorem dX7_load_48 : dec mX7_load 48 = .ok (.getfield 36, 3) := by decide +kernel
theorem dX7_load_51 : dec mX7_load 51 = .ok (.iconst 2, 1) := by decide +kernel
theorem dX7_load_52 : dec mX7_load 52 = .ok (.invokevirtual 80, 3) := by decide +kernel
theorem dX7_load_55 : dec mX7_load 55 = .ok (.invokevirtual 40, 3) := by decide +kernel
theorem dX7_load_58 : dec mX7_load 58 = .ok (.iconst 0, 1) := by decide +kernel
theorem dX7_load_59 : dec mX7_load 59 = .ok (.istore_n 1, 1) := by decide +kernel
theorem dX7_load_60 : dec mX7_load 60 = .ok (.iconst 3, 1) := by decide +kernel
theorem dX7_load_61 : dec mX7_load 61 = .ok (.istore_n 2, 1) := by decide +kernel
theorem dX7_load_62 : dec mX7_load 62 = .ok (.iconst 0, 1) := by decide +kernel
theorem dX7_load_63 : dec mX7_load 63 = .ok (.istore_n 3, 1) := by decide +kernel
theorem dX7_load_64 : dec mX7_load 64 = .ok (.iload_n 3, 1) := by decide +kernel
theorem dX7_load_65 : dec mX7_load 65 = .ok (.bipush 120, 2) := by decide +kernel
theorem dX7_load_67 : dec mX7_load 67 = .ok (.if_icmp .ge 60, 3) := by decide +kernel
theorem dX7_load_70 : dec mX7_load 70 = .ok (.iload_n 2, 1) := by decide +kernel
theorem dX7_load_71 : dec mX7_load 71 = .ok (.aload_n 0, 1) := by decide +kernel
theorem dX7_load_72 : dec mX7_load 72 = .ok (.getfield 36, 3) := by decide +kernel
theorem dX7_load_75 : dec mX7_load 75 = .ok (.getfield 64, 3) := by decide +kernel
theorem dX7_load_78 : dec mX7_load 78 = .ok (.if_icmp .ge 49, 3) := by decide +kernel
theorem dX7_load_81 : dec mX7_load 81 = .ok (.iload_n 1, 1) := by decide +kernel
theorem dX7_load_82 : dec mX7_load 82 = .ok (.aload_n 0, 1) := by decide +kernel
theorem dX7_load_83 : dec mX7_load 83 = .ok (.getfield 10, 3) := by decide +kernel
theorem dX7_load_86 : dec mX7_load 86 = .ok (.aload_n 0, 1) := by decide +kernel
theorem dX7_load_87 : dec mX7_load 87 = .ok (.getfield 36, 3) := by decide +kernel
theorem dX7_load_90 : dec mX7_load 90 = .ok (.iload_n 2, 1) := by decide +kernel
theorem dX7_load_91 : dec mX7_load 91 = .ok (.invokestatic 84, 3) := by decide +kernel
theorem dX7_load_94 : dec mX7_load 94 = .ok (.ifCond .eq 7, 3) := by decide +kernel
theorem dX7_load_97 : dec mX7_load 97 = .ok (.iconst 0, 1) := by decide +kernel
theorem dX7_load_98 : dec mX7_load 98 = .ok (.goto 4, 3) := by decide +kernel
theorem dX7_load_101 : dec mX7_load 101 = .ok (.iconst 1, 1) := by decide +kernel
theorem dX7_load_102 : dec mX7_load 102 = .ok (.iadd, 1) := by decide +kernel
theorem dX7_load_103 : dec mX7_load 103 = .ok (.istore_n 1, 1) := by decide +kernel
theorem dX7_load_104 : dec mX7_load 104 = .ok (.iload_n 2, 1) := by decide +kernel
theorem dX7_load_105 : dec mX7_load 105 = .ok (.aload_n 0, 1) := by decide +kernel
theorem dX7_load_106 : dec mX7_load 106 = .ok (.getfield 36, 3) := by decide +kernel
theorem dX7_load_109 : dec mX7_load 109 = .ok (.iload_n 2, 1) := by decide +kernel
theorem dX7_load_110 : dec mX7_load 110 = .ok (.invokevirtual 90, 3) := by decide +kernel
theorem dX7_load_113 : dec mX7_load 113 = .ok (.invokestatic 93, 3) := by decide +kernel
theorem dX7_load_116 : dec mX7_load 116 = .ok (.invokevirtual 97, 3) := by decide +kernel
theorem dX7_load_119 : dec mX7_load 119 = .ok (.iadd, 1) := by decide +kernel
theorem dX7_load_120 : dec mX7_load 120 = .ok (.istore_n 2, 1) := by decide +kernel
theorem dX7_load_121 : dec mX7_load 121 = .ok (.iinc 3 1, 3) := by decide +kernel
theorem dX7_load_124 : dec mX7_load 124 = .ok (.goto (-60), 3) := by decide +kernel
theorem dX7_load_127 : dec mX7_load 127 = .ok (.iload_n 1, 1) := by decide +kernel
theorem dX7_load_128 : dec mX7_load 128 = .ok (.ireturn, 1) := by decide +kernel
theorem dX7_about_0 : dec mX7_about 0 = .ok (.iload_n 1, 1) := by decide +kernel
theorem dX7_about_1 : dec mX7_about 1 = .ok (.tableswitch 176 0 10 #[59, 70, 81, 89, 97, 105, 113, 121, 139, 157, 165], 59) := by decide +kernel
theorem dX7_about_60 : dec mX7_about 60 = .ok (.aload_n 0, 1) := by decide +kernel
theorem dX7_about_61 : dec mX7_about 61 = .ok (.getfield 10, 3) := by decide +kernel
theorem dX7_about_64 : dec mX7_about 64 = .ok (.getfield 101, 3) := by decide +kernel
theorem dX7_about_67 : dec mX7_about 67 = .ok (.getfield 105, 3) := by decide +kernel
theorem dX7_about_70 : dec mX7_about 70 = .ok (.ireturn, 1) := by decide +kernel
theorem dX7_about_71 : dec mX7_about 71 = .ok (.aload_n 0, 1) := by decide +kernel
theorem dX7_about_72 : dec mX7_about 72 = .ok (.getfield 10, 3) := by decide +kernel
theorem dX7_about_75 : dec mX7_about 75 = .ok (.getfield 101, 3) := by decide +kernel
theorem dX7_about_78 : dec mX7_about 78 = .ok (.getfield 110, 3) := by decide +kernel
theorem dX7_about_81 : dec mX7_about 81 = .ok (.ireturn, 1) := by decide +kernel
theorem dX7_about_82 : dec mX7_about 82 = .ok (.aload_n 0, 1) := by decide +kernel
theorem dX7_about_83 : dec mX7_about 83 = .ok (.getfield 10, 3) := by decide +kernel
theorem dX7_about_86 : dec mX7_about 86 = .ok (.getfield 113, 3) := by decide +kernel
theorem dX7_about_89 : dec mX7_about 89 = .ok (.ireturn, 1) := by decide +kernel
theorem dX7_about_90 : dec mX7_about 90 = .ok (.aload_n 0, 1) := by decide +kernel
theorem dX7_about_91 : dec mX7_about 91 = .ok (.getfield 10, 3) := by decide +kernel
theorem dX7_about_94 : dec mX7_about 94 = .ok (.getfield 116, 3) := by decide +kernel
theorem dX7_about_97 : dec mX7_about 97 = .ok (.ireturn, 1) := by decide +kernel
theorem dX7_about_98 : dec mX7_about 98 = .ok (.aload_n 0, 1) := by decide +kernel
theorem dX7_about_99 : dec mX7_about 99 = .ok (.getfield 10, 3) := by decide +kernel
theorem dX7_about_102 : dec mX7_about 102 = .ok (.getfield 119, 3) := by decide +kernel
theorem dX7_about_105 : dec mX7_about 105 = .ok (.ireturn, 1) := by decide +kernel
theorem dX7_about_106 : dec mX7_about 106 = .ok (.aload_n 0, 1) := by decide +kernel
theorem dX7_about_107 : dec mX7_about 107 = .ok (.getfield 10, 3) := by decide +kernel
theorem dX7_about_110 : dec mX7_about 110 = .ok (.invokevirtual 122, 3) := by decide +kernel
theorem dX7_about_113 : dec mX7_about 113 = .ok (.ireturn, 1) := by decide +kernel
theorem dX7_about_114 : dec mX7_about 114 = .ok (.aload_n 0, 1) := by decide +kernel
theorem dX7_about_115 : dec mX7_about 115 = .ok (.getfield 10, 3) := by decide +kernel
theorem dX7_about_118 : dec mX7_about 118 = .ok (.invokevirtual 125, 3) := by decide +kernel
theorem dX7_about_121 : dec mX7_about 121 = .ok (.ireturn, 1) := by decide +kernel
theorem dX7_about_122 : dec mX7_about 122 = .ok (.aload_n 0, 1) := by decide +kernel
theorem dX7_about_123 : dec mX7_about 123 = .ok (.getfield 10, 3) := by decide +kernel
theorem dX7_about_126 : dec mX7_about 126 = .ok (.aload_n 0, 1) := by decide +kernel
theorem dX7_about_127 : dec mX7_about 127 = .ok (.getfield 10, 3) := by decide +kernel
theorem dX7_about_130 : dec mX7_about 130 = .ok (.getfield 101, 3) := by decide +kernel
theorem dX7_about_133 : dec mX7_about 133 = .ok (.getfield 128, 3) := by decide +kernel
theorem dX7_about_136 : dec mX7_about 136 = .ok (.invokevirtual 132, 3) := by decide +kernel
theorem dX7_about_139 : dec mX7_about 139 = .ok (.ireturn, 1) := by decide +kernel
theorem dX7_about_140 : dec mX7_about 140 = .ok (.aload_n 0, 1) := by decide +kernel
theorem dX7_about_141 : dec mX7_about 141 = .ok (.getfield 10, 3) := by decide +kernel
theorem dX7_about_144 : dec mX7_about 144 = .ok (.aload_n 0, 1) := by decide +kernel
theorem dX7_about_145 : dec mX7_about 145 = .ok (.getfield 10, 3) := by decide +kernel
theorem dX7_about_148 : dec mX7_about 148 = .ok (.getfield 101, 3) := by decide +kernel
theorem dX7_about_151 : dec mX7_about 151 = .ok (.getfield 136, 3) := by decide +kernel
theorem dX7_about_154 : dec mX7_about 154 = .ok (.invokevirtual 132, 3) := by decide +kernel
theorem dX7_about_157 : dec mX7_about 157 = .ok (.ireturn, 1) := by decide +kernel
theorem dX7_about_158 : dec mX7_about 158 = .ok (.aload_n 0, 1) := by decide +kernel
theorem dX7_about_159 : dec mX7_about 159 = .ok (.getfield 10, 3) := by decide +kernel
theorem dX7_about_162 : dec mX7_about 162 = .ok (.invokevirtual 139, 3) := by decide +kernel
theorem dX7_about_165 : dec mX7_about 165 = .ok (.ireturn, 1) := by decide +kernel
theorem dX7_about_166 : dec mX7_about 166 = .ok (.aload_n 0, 1) := by decide +kernel
theorem dX7_about_167 : dec mX7_about 167 = .ok (.getfield 10, 3) := by decide +kernel
theorem dX7_about_170 : dec mX7_about 170 = .ok (.getfield 101, 3) := by decide +kernel
theorem dX7_about_173 : dec mX7_about 173 = .ok (.getfield 142, 3) := by decide +kernel
theorem dX7_about_176 : dec mX7_about 176 = .ok (.ireturn, 1) := by decide +kernel
theorem dX7_about_177 : dec mX7_about 177 = .ok (.new 44, 3) := by decide +kernel
theorem dX7_about_180 : dec mX7_about 180 = .ok (.dup, 1) := by decide +kernel
theorem dX7_about_181 : dec mX7_about 181 = .ok (.ldc 145, 2) := by decide +kernel
theorem dX7_about_183 : dec mX7_about 183 = .ok (.invokespecial 48, 3) := by decide +kernel
theorem dX7_about_186 : dec mX7_about 186 = .ok (.athrow, 1) := by decide +kernel
theorem dX7_square_0 : dec mX7_square 0 = .ok (.aload_n 0, 1) := by decide +kernel
theorem dX7_square_1 : dec mX7_square 1 = .ok (.getfield 10, 3) := by decide +kernel
theorem dX7_square_4 : dec mX7_square 4 = .ok (.iload_n 1, 1) := by decide +kernel
theorem dX7_square_5 : dec mX7_square 5 = .ok (.iload_n 2, 1) := by decide +kernel
theorem dX7_square_6 : dec mX7_square 6 = .ok (.invokevirtual 147, 3) := by decide +kernel
theorem dX7_square_9 : dec mX7_square 9 = .ok (.ifCond .ne 13, 3) := by decide +kernel
theorem dX7_square_12 : dec mX7_square 12 = .ok (.new 151, 3) := by decide +kernel
theorem dX7_square_15 : dec mX7_square 15 = .ok (.dup, 1) := by decide +kernel
theorem dX7_square_16 : dec mX7_square 16 = .ok (.ldc 153, 2) := by decide +kernel
theorem dX7_square_18 : dec mX7_square 18 = .ok (.invokespecial 155, 3) := by decide +kernel
theorem dX7_square_21 : dec mX7_square 21 = .ok (.athrow, 1) := by decide +kernel
theorem dX7_square_22 : dec mX7_square 22 = .ok (.aload_n 0, 1) := by decide +kernel
theorem dX7_square_23 : dec mX7_square 23 = .ok (.getfield 10, 3) := by decide +kernel
theorem dX7_square_26 : dec mX7_square 26 = .ok (.iload_n 1, 1) := by decide +kernel
theorem dX7_square_27 : dec mX7_square 27 = .ok (.iload_n 2, 1) := by decide +kernel
theorem dX7_square_28 : dec mX7_square 28 = .ok (.invokevirtual 156, 3) := by decide +kernel
theorem dX7_square_31 : dec mX7_square 31 = .ok (.istore 4, 2) := by decide +kernel
theorem dX7_square_33 : dec mX7_square 33 = .ok (.iload_n 3, 1) := by decide +kernel
theorem dX7_square_34 : dec mX7_square 34 = .ok (.tableswitch 125 0 4 #[34, 50, 67, 102, 115], 34) := by decide +kernel
theorem dX7_square_68 : dec mX7_square 68 = .ok (.aload_n 0, 1) := by decide +kernel
theorem dX7_square_69 : dec mX7_square 69 = .ok (.getfield 10, 3) := by decide +kernel
theorem dX7_square_72 : dec mX7_square 72 = .ok (.getfield 101, 3) := by decide +kernel
theorem dX7_square_75 : dec mX7_square 75 = .ok (.getfield 160, 3) := by decide +kernel
theorem dX7_square_78 : dec mX7_square 78 = .ok (.iload 4, 2) := by decide +kernel
theorem dX7_square_80 : dec mX7_square 80 = .ok (.invokestatic 163, 3) := by decide +kernel
theorem dX7_square_83 : dec mX7_square 83 = .ok (.ireturn, 1) := by decide +kernel
theorem dX7_square_84 : dec mX7_square 84 = .ok (.aload_n 0, 1) := by decide +kernel
theorem dX7_square_85 : dec mX7_square 85 = .ok (.getfield 10, 3) := by decide +kernel
theorem dX7_square_88 : dec mX7_square 88 = .ok (.aload_n 0, 1) := by decide +kernel
theorem dX7_square_89 : dec mX7_square 89 = .ok (.getfield 10, 3) := by decide +kernel
theorem dX7_square_92 : dec mX7_square 92 = .ok (.iload 4, 2) := by decide +kernel
theorem dX7_square_94 : dec mX7_square 94 = .ok (.invokevirtual 167, 3) := by decide +kernel
theorem dX7_square_97 : dec mX7_square 97 = .ok (.invokevirtual 170, 3) := by decide +kernel
theorem dX7_square_100 : dec mX7_square 100 = .ok (.ireturn, 1) := by decide +kernel
theorem dX7_square_101 : dec mX7_square 101 = .ok (.aload_n 0, 1) := by decide +kernel
theorem dX7_square_102 : dec mX7_square 102 = .ok (.getfield 10, 3) := by decide +kernel
theorem dX7_square_105 : dec mX7_square 105 = .ok (.getfield 101, 3) := by decide +kernel
theorem dX7_square_108 : dec mX7_square 108 = .ok (.getfield 160, 3) := by decide +kernel
theorem dX7_square_111 : dec mX7_square 111 = .ok (.iload 4, 2) := by decide +kernel
theorem dX7_square_113 : dec mX7_square 113 = .ok (.invokestatic 163, 3) := by decide +kernel
theorem dX7_square_116 : dec mX7_square 116 = .ok (.aload_n 0, 1) := by decide +kernel
theorem dX7_square_117 : dec mX7_square 117 = .ok (.getfield 10, 3) := by decide +kernel
theorem dX7_square_120 : dec mX7_square 120 = .ok (.aload_n 0, 1) := by decide +kernel
theorem dX7_square_121 : dec mX7_square 121 = .ok (.getfield 10, 3) := by decide +kernel
theorem dX7_square_124 : dec mX7_square 124 = .ok (.iload 4, 2) := by decide +kernel
theorem dX7_square_126 : dec mX7_square 126 = .ok (.invokevirtual 167, 3) := by decide +kernel
theorem dX7_square_129 : dec mX7_square 129 = .ok (.invokevirtual 170, 3) := by decide +kernel
theorem dX7_square_132 : dec mX7_square 132 = .ok (.invokestatic 173, 3) := by decide +kernel
theorem dX7_square_135 : dec mX7_square 135 = .ok (.ireturn, 1) := by decide +kernel
theorem dX7_square_136 : dec mX7_square 136 = .ok (.aload_n 0, 1) := by decide +kernel
theorem dX7_square_137 : dec mX7_square 137 = .ok (.getfield 10, 3) := by decide +kernel
theorem dX7_square_140 : dec mX7_square 140 = .ok (.getfield 176, 3) := by decide +kernel
theorem dX7_square_143 : dec mX7_square 143 = .ok (.iload 4, 2) := by decide +kernel
theorem dX7_square_145 : dec mX7_square 145 = .ok (.invokestatic 163, 3) := by decide +kernel
theorem dX7_square_148 : dec mX7_square 148 = .ok (.ireturn, 1) := by decide +kernel
theorem dX7_square_149 : dec mX7_square 149 = .ok (.aload_n 0, 1) := by decide +kernel
theorem dX7_square_150 : dec mX7_square 150 = .ok (.getfield 10, 3) := by decide +kernel
theorem dX7_square_153 : dec mX7_square 153 = .ok (.iload 4, 2) := by decide +kernel
theorem dX7_square_155 : dec mX7_square 155 = .ok (.invokevirtual 167, 3) := by decide +kernel
theorem dX7_square_158 : dec mX7_square 158 = .ok (.ireturn, 1) := by decide +kernel
theorem dX7_square_159 : dec mX7_square 159 = .ok (.new 44, 3) := by decide +kernel
theorem dX7_square_162 : dec mX7_square 162 = .ok (.dup, 1) := by decide +kernel
theorem dX7_square_163 : dec mX7_square 163 = .ok (.ldc 179, 2) := by decide +kernel
theorem dX7_square_165 : dec mX7_square 165 = .ok (.invokespecial 48, 3) := by decide +kernel
theorem dX7_square_168 : dec mX7_square 168 = .ok (.athrow, 1) := by decide +kernel
theorem dX7_place_0 : dec mX7_place 0 = .ok (.aload_n 0, 1) := by decide +kernel
theorem dX7_place_1 : dec mX7_place 1 = .ok (.getfield 10, 3) := by decide +kernel
theorem dX7_place_4 : dec mX7_place 4 = .ok (.iload_n 1, 1) := by decide +kernel
theorem dX7_place_5 : dec mX7_place 5 = .ok (.invokevirtual 181, 3) := by decide +kernel
theorem dX7_place_8 : dec mX7_place 8 = .ok (.ifCond .ne 13, 3) := by decide +kernel
theorem dX7_place_11 : dec mX7_place 11 = .ok (.new 151, 3) := by decide +kernel
theorem dX7_place_14 : dec mX7_place 14 = .ok (.dup, 1) := by decide +kernel
theorem dX7_place_15 : dec mX7_place 15 = .ok (.ldc 185, 2) := by decide +kernel
theorem dX7_place_17 : dec mX7_place 17 = .ok (.invokespecial 155, 3) := by decide +kernel
theorem dX7_place_20 : dec mX7_place 20 = .ok (.athrow, 1) := by decide +kernel
theorem dX7_place_21 : dec mX7_place 21 = .ok (.iload_n 2, 1) := by decide +kernel
theorem dX7_place_22 : dec mX7_place 22 = .ok (.tableswitch 143 0 6 #[42, 57, 72, 87, 102, 111, 126], 42) := by decide +kernel
theorem dX7_place_64 : dec mX7_place 64 = .ok (.aload_n 0, 1) := by decide +kernel
theorem dX7_place_65 : dec mX7_place 65 = .ok (.getfield 10, 3) := by decide +kernel
theorem dX7_place_68 : dec mX7_place 68 = .ok (.getfield 101, 3) := by decide +kernel
theorem dX7_place_71 : dec mX7_place 71 = .ok (.getfield 187, 3) := by decide +kernel
theorem dX7_place_74 : dec mX7_place 74 = .ok (.iload_n 1, 1) := by decide +kernel
theorem dX7_place_75 : dec mX7_place 75 = .ok (.invokestatic 163, 3) := by decide +kernel
theorem dX7_place_78 : dec mX7_place 78 = .ok (.ireturn, 1) := by decide +kernel
theorem dX7_place_79 : dec mX7_place 79 = .ok (.aload_n 0, 1) := by decide +kernel
theorem dX7_place_80 : dec mX7_place 80 = .ok (.getfield 10, 3) := by decide +kernel
theorem dX7_place_83 : dec mX7_place 83 = .ok (.getfield 101, 3) := by decide +kernel
theorem dX7_place_86 : dec mX7_place 86 = .ok (.getfield 190, 3) := by decide +kernel
theorem dX7_place_89 : dec mX7_place 89 = .ok (.iload_n 1, 1) := by decide +kernel
theorem dX7_place_90 : dec mX7_place 90 = .ok (.invokestatic 163, 3) := by decide +kernel
theorem dX7_place_93 : dec mX7_place 93 = .ok (.ireturn, 1) := by decide +kernel
theorem dX7_place_94 : dec mX7_place 94 = .ok (.aload_n 0, 1) := by decide +kernel
theorem dX7_place_95 : dec mX7_place 95 = .ok (.getfield 10, 3) := by decide +kernel
theorem dX7_place_98 : dec mX7_place 98 = .ok (.getfield 101, 3) := by decide +kernel
theorem dX7_place_101 : dec mX7_place 101 = .ok (.getfield 193, 3) := by decide +kernel
theorem dX7_place_104 : dec mX7_place 104 = .ok (.iload_n 1, 1) := by decide +kernel
theorem dX7_place_105 : dec mX7_place 105 = .ok (.invokestatic 163, 3) := by decide +kernel
theorem dX7_place_108 : dec mX7_place 108 = .ok (.ireturn, 1) := by decide +kernel
theorem dX7_place_109 : dec mX7_place 109 = .ok (.aload_n 0, 1) := by decide +kernel
theorem dX7_place_110 : dec mX7_place 110 = .ok (.getfield 10, 3) := by decide +kernel
theorem dX7_place_113 : dec mX7_place 113 = .ok (.getfield 101, 3) := by decide +kernel
theorem dX7_place_116 : dec mX7_place 116 = .ok (.getfield 128, 3) := by decide +kernel
theorem dX7_place_119 : dec mX7_place 119 = .ok (.iload_n 1, 1) := by decide +kernel
theorem dX7_place_120 : dec mX7_place 120 = .ok (.invokestatic 163, 3) := by decide +kernel
theorem dX7_place_123 : dec mX7_place 123 = .ok (.ireturn, 1) := by decide +kernel
theorem dX7_place_124 : dec mX7_place 124 = .ok (.aload_n 0, 1) := by decide +kernel
theorem dX7_place_125 : dec mX7_place 125 = .ok (.getfield 10, 3) := by decide +kernel
theorem dX7_place_128 : dec mX7_place 128 = .ok (.iload_n 1, 1) := by decide +kernel
theorem dX7_place_129 : dec mX7_place 129 = .ok (.invokevirtual 196, 3) := by decide +kernel
theorem dX7_place_132 : dec mX7_place 132 = .ok (.ireturn, 1) := by decide +kernel
theorem dX7_place_133 : dec mX7_place 133 = .ok (.aload_n 0, 1) := by decide +kernel
theorem dX7_place_134 : dec mX7_place 134 = .ok (.getfield 10, 3) := by decide +kernel
theorem dX7_place_137 : dec mX7_place 137 = .ok (.getfield 101, 3) := by decide +kernel
theorem dX7_place_140 : dec mX7_place 140 = .ok (.getfield 136, 3) := by decide +kernel
theorem dX7_place_143 : dec mX7_place 143 = .ok (.iload_n 1, 1) := by decide +kernel
theorem dX7_place_144 : dec mX7_place 144 = .ok (.invokestatic 163, 3) := by decide +kernel
theorem dX7_place_147 : dec mX7_place 147 = .ok (.ireturn, 1) := by decide +kernel
theorem dX7_place_148 : dec mX7_place 148 = .ok (.aload_n 0, 1) := by decide +kernel
theorem dX7_place_149 : dec mX7_place 149 = .ok (.getfield 10, 3) := by decide +kernel
theorem dX7_place_152 : dec mX7_place 152 = .ok (.iload_n 1, 1) := by decide +kernel
theorem dX7_place_153 : dec mX7_place 153 = .ok (.invokevirtual 199, 3) := by decide +kernel
theorem dX7_place_156 : dec mX7_place 156 = .ok (.ifCond .eq 7, 3) := by decide +kernel
theorem dX7_place_159 : dec mX7_place 159 = .ok (.iconst 1, 1) := by decide +kernel
theorem dX7_place_160 : dec mX7_place 160 = .ok (.goto 4, 3) := by decide +kernel
theorem dX7_place_163 : dec mX7_place 163 = .ok (.iconst 0, 1) := by decide +kernel
theorem dX7_place_164 : dec mX7_place 164 = .ok (.ireturn, 1) := by decide +kernel
theorem dX7_place_165 : dec mX7_place 165 = .ok (.new 44, 3) := by decide +kernel
theorem dX7_place_168 : dec mX7_place 168 = .ok (.dup, 1) := by decide +kernel
theorem dX7_place_169 : dec mX7_place 169 = .ok (.ldc 202, 2) := by decide +kernel
theorem dX7_place_171 : dec mX7_place 171 = .ok (.invokespecial 48, 3) := by decide +kernel
theorem dX7_place_174 : dec mX7_place 174 = .ok (.athrow, 1) := by decide +kernel
theorem dX7_tile_0 : dec mX7_tile 0 = .ok (.aload_n 0, 1) := by decide +kernel
theorem dX7_tile_1 : dec mX7_tile 1 = .ok (.getfield 10, 3) := by decide +kernel
theorem dX7_tile_4 : dec mX7_tile 4 = .ok (.iload_n 1, 1) := by decide +kernel
theorem dX7_tile_5 : dec mX7_tile 5 = .ok (.invokevirtual 204, 3) := by decide +kernel
theorem dX7_tile_8 : dec mX7_tile 8 = .ok (.ifCond .ne 13, 3) := by decide +kernel
theorem dX7_tile_11 : dec mX7_tile 11 = .ok (.new 151, 3) := by decide +kernel
theorem dX7_tile_14 : dec mX7_tile 14 = .ok (.dup, 1) := by decide +kernel
theorem dX7_tile_15 : dec mX7_tile 15 = .ok (.ldc 207, 2) := by decide +kernel
theorem dX7_tile_17 : dec mX7_tile 17 = .ok (.invokespecial 155, 3) := by decide +kernel
theorem dX7_tile_20 : dec mX7_tile 20 = .ok (.athrow, 1) := by decide +kernel
theorem dX7_tile_21 : dec mX7_tile 21 = .ok (.iload_n 2, 1) := by decide +kernel
theorem dX7_tile_22 : dec mX7_tile 22 = .ok (.tableswitch 59 0 2 #[26, 38, 50], 26) := by decide +kernel
theorem dX7_tile_48 : dec mX7_tile 48 = .ok (.aload_n 0, 1) := by decide +kernel
theorem dX7_tile_49 : dec mX7_tile 49 = .ok (.getfield 10, 3) := by decide +kernel
theorem dX7_tile_52 : dec mX7_tile 52 = .ok (.getfield 209, 3) := by decide +kernel
theorem dX7_tile_55 : dec mX7_tile 55 = .ok (.iload_n 1, 1) := by decide +kernel
theorem dX7_tile_56 : dec mX7_tile 56 = .ok (.invokestatic 163, 3) := by decide +kernel
theorem dX7_tile_59 : dec mX7_tile 59 = .ok (.ireturn, 1) := by decide +kernel
theorem dX7_tile_60 : dec mX7_tile 60 = .ok (.aload_n 0, 1) := by decide +kernel
theorem dX7_tile_61 : dec mX7_tile 61 = .ok (.getfield 10, 3) := by decide +kernel
theorem dX7_tile_64 : dec mX7_tile 64 = .ok (.getfield 212, 3) := by decide +kernel
theorem dX7_tile_67 : dec mX7_tile 67 = .ok (.iload_n 1, 1) := by decide +kernel
theorem dX7_tile_68 : dec mX7_tile 68 = .ok (.invokestatic 163, 3) := by decide +kernel
theorem dX7_tile_71 : dec mX7_tile 71 = .ok (.ireturn, 1) := by decide +kernel
theorem dX7_tile_72 : dec mX7_tile 72 = .ok (.aload_n 0, 1) := by decide +kernel
theorem dX7_tile_73 : dec mX7_tile 73 = .ok (.getfield 10, 3) := by decide +kernel
theorem dX7_tile_76 : dec mX7_tile 76 = .ok (.iload_n 1, 1) := by decide +kernel
theorem dX7_tile_77 : dec mX7_tile 77 = .ok (.invokevirtual 215, 3) := by decide +kernel
theorem dX7_tile_80 : dec mX7_tile 80 = .ok (.ireturn, 1) := by decide +kernel
theorem dX7_tile_81 : dec mX7_tile 81 = .ok (.new 44, 3) := by decide +kernel
theorem dX7_tile_84 : dec mX7_tile 84 = .ok (.dup, 1) := by decide +kernel
theorem dX7_tile_85 : dec mX7_tile 85 = .ok (.ldc 218, 2) := by decide +kernel
theorem dX7_tile_87 : dec mX7_tile 87 = .ok (.invokespecial 48, 3) := by decide +kernel
theorem dX7_tile_90 : dec mX7_tile 90 = .ok (.athrow, 1) := by decide +kernel
theorem dX7_begin_0 : dec mX7_begin 0 = .ok (.iload_n 1, 1) := by decide +kernel
theorem dX7_begin_1 : dec mX7_begin 1 = .ok (.iconst 2, 1) := by decide +kernel
theorem dX7_begin_2 : dec mX7_begin 2 = .ok (.if_icmp .lt 19, 3) := by decide +kernel
theorem dX7_begin_5 : dec mX7_begin 5 = .ok (.iload_n 1, 1) := by decide +kernel
theorem dX7_begin_6 : dec mX7_begin 6 = .ok (.bipush 6, 2) := by decide +kernel
theorem dX7_begin_8 : dec mX7_begin 8 = .ok (.if_icmp .gt 13, 3) := by decide +kernel
theorem dX7_begin_11 : dec mX7_begin 11 = .ok (.iload_n 2, 1) := by decide +kernel
theorem dX7_begin_12 : dec mX7_begin 12 = .ok (.iconst 1, 1) := by decide +kernel
theorem dX7_begin_13 : dec mX7_begin 13 = .ok (.if_icmp .lt 8, 3) := by decide +kernel
theorem dX7_begin_16 : dec mX7_begin 16 = .ok (.iload_n 2, 1) := by decide +kernel
theorem dX7_begin_17 : dec mX7_begin 17 = .ok (.iconst 2, 1) := by decide +kernel
theorem dX7_begin_18 : dec mX7_begin 18 = .ok (.if_icmp .le 13, 3) := by decide +kernel
theorem dX7_begin_21 : dec mX7_begin 21 = .ok (.new 44, 3) := by decide +kernel
theorem dX7_begin_24 : dec mX7_begin 24 = .ok (.dup, 1) := by decide +kernel
theorem dX7_begin_25 : dec mX7_begin 25 = .ok (.ldc 220, 2) := by decide +kernel
theorem dX7_begin_27 : dec mX7_begin 27 = .ok (.invokespecial 48, 3) := by decide +kernel
theorem dX7_begin_30 : dec mX7_begin 30 = .ok (.athrow, 1) := by decide +kernel
theorem dX7_begin_31 : dec mX7_begin 31 = .ok (.aload_n 0, 1) := by decide +kernel
theorem dX7_begin_32 : dec mX7_begin 32 = .ok (.getfield 22, 3) := by decide +kernel
theorem dX7_begin_35 : dec mX7_begin 35 = .ok (.aload_n 0, 1) := by decide +kernel
theorem dX7_begin_36 : dec mX7_begin 36 = .ok (.getfield 10, 3) := by decide +kernel
theorem dX7_begin_39 : dec mX7_begin 39 = .ok (.getfield 101, 3) := by decide +kernel
theorem dX7_begin_42 : dec mX7_begin 42 = .ok (.invokevirtual 222, 3) := by decide +kernel
theorem dX7_begin_45 : dec mX7_begin 45 = .ok (.aload_n 0, 1) := by decide +kernel
theorem dX7_begin_46 : dec mX7_begin 46 = .ok (.getfield 10, 3) := by decide +kernel
theorem dX7_begin_49 : dec mX7_begin 49 = .ok (.iload_n 1, 1) := by decide +kernel
theorem dX7_begin_50 : dec mX7_begin 50 = .ok (.iload_n 2, 1) := by decide +kernel
theorem dX7_begin_51 : dec mX7_begin 51 = .ok (.invokevirtual 40, 3) := by decide +kernel
theorem dX7_begin_54 : dec mX7_begin 54 = .ok (.aload_n 0, 1) := by decide +kernel
theorem dX7_begin_55 : dec mX7_begin 55 = .ok (.getfield 10, 3) := by decide +kernel
theorem dX7_begin_58 : dec mX7_begin 58 = .ok (.getfield 119, 3) := by decide +kernel
theorem dX7_begin_61 : dec mX7_begin 61 = .ok (.ireturn, 1) := by decide +kernel
theorem dX7_grey_0 : dec mX7_grey 0 = .ok (.aload_n 0, 1) := by decide +kernel
theorem dX7_grey_1 : dec mX7_grey 1 = .ok (.getfield 10, 3) := by decide +kernel
theorem dX7_grey_4 : dec mX7_grey 4 = .ok (.iload_n 1, 1) := by decide +kernel
theorem dX7_grey_5 : dec mX7_grey 5 = .ok (.iload_n 2, 1) := by decide +kernel
theorem dX7_grey_6 : dec mX7_grey 6 = .ok (.invokevirtual 147, 3) := by decide +kernel
theorem dX7_grey_9 : dec mX7_grey 9 = .ok (.ifCond .ne 13, 3) := by decide +kernel
theorem dX7_grey_12 : dec mX7_grey 12 = .ok (.new 151, 3) := by decide +kernel
theorem dX7_grey_15 : dec mX7_grey 15 = .ok (.dup, 1) := by decide +kernel
theorem dX7_grey_16 : dec mX7_grey 16 = .ok (.ldc 153, 2) := by decide +kernel
theorem dX7_grey_18 : dec mX7_grey 18 = .ok (.invokespecial 155, 3) := by decide +kernel
theorem dX7_grey_21 : dec mX7_grey 21 = .ok (.athrow, 1) := by decide +kernel
theorem dX7_grey_22 : dec mX7_grey 22 = .ok (.iload_n 3, 1) := by decide +kernel
theorem dX7_grey_23 : dec mX7_grey 23 = .ok (.invokestatic 226, 3) := by decide +kernel
theorem dX7_grey_26 : dec mX7_grey 26 = .ok (.ifCond .ne 13, 3) := by decide +kernel
theorem dX7_grey_29 : dec mX7_grey 29 = .ok (.new 44, 3) := by decide +kernel
theorem dX7_grey_32 : dec mX7_grey 32 = .ok (.dup, 1) := by decide +kernel
theorem dX7_grey_33 : dec mX7_grey 33 = .ok (.ldc 229, 2) := by decide +kernel
theorem dX7_grey_35 : dec mX7_grey 35 = .ok (.invokespecial 48, 3) := by decide +kernel
theorem dX7_grey_38 : dec mX7_grey 38 = .ok (.athrow, 1) := by decide +kernel
theorem dX7_grey_39 : dec mX7_grey 39 = .ok (.aload_n 0, 1) := by decide +kernel
theorem dX7_grey_40 : dec mX7_grey 40 = .ok (.getfield 22, 3) := by decide +kernel
theorem dX7_grey_43 : dec mX7_grey 43 = .ok (.aload_n 0, 1) := by decide +kernel
theorem dX7_grey_44 : dec mX7_grey 44 = .ok (.getfield 10, 3) := by decide +kernel
theorem dX7_grey_47 : dec mX7_grey 47 = .ok (.getfield 101, 3) := by decide +kernel
theorem dX7_grey_50 : dec mX7_grey 50 = .ok (.invokevirtual 222, 3) := by decide +kernel
theorem dX7_grey_53 : dec mX7_grey 53 = .ok (.aload_n 0, 1) := by decide +kernel
theorem dX7_grey_54 : dec mX7_grey 54 = .ok (.getfield 10, 3) := by decide +kernel
theorem dX7_grey_57 : dec mX7_grey 57 = .ok (.iload_n 1, 1) := by decide +kernel
theorem dX7_grey_58 : dec mX7_grey 58 = .ok (.iload_n 2, 1) := by decide +kernel
theorem dX7_grey_59 : dec mX7_grey 59 = .ok (.invokevirtual 156, 3) := by decide +kernel
theorem dX7_grey_62 : dec mX7_grey 62 = .ok (.istore 4, 2) := by decide +kernel
theorem dX7_grey_64 : dec mX7_grey 64 = .ok (.aload_n 0, 1) := by decide +kernel
theorem dX7_grey_65 : dec mX7_grey 65 = .ok (.getfield 10, 3) := by decide +kernel
theorem dX7_grey_68 : dec mX7_grey 68 = .ok (.getfield 101, 3) := by decide +kernel
theorem dX7_grey_71 : dec mX7_grey 71 = .ok (.getfield 160, 3) := by decide +kernel
theorem dX7_grey_74 : dec mX7_grey 74 = .ok (.iload 4, 2) := by decide +kernel
theorem dX7_grey_76 : dec mX7_grey 76 = .ok (.invokestatic 163, 3) := by decide +kernel
theorem dX7_grey_79 : dec mX7_grey 79 = .ok (.istore 5, 2) := by decide +kernel
theorem dX7_grey_81 : dec mX7_grey 81 = .ok (.aload_n 0, 1) := by decide +kernel
theorem dX7_grey_82 : dec mX7_grey 82 = .ok (.getfield 10, 3) := by decide +kernel
theorem dX7_grey_85 : dec mX7_grey 85 = .ok (.getfield 101, 3) := by decide +kernel
theorem dX7_grey_88 : dec mX7_grey 88 = .ok (.getfield 160, 3) := by decide +kernel
theorem dX7_grey_91 : dec mX7_grey 91 = .ok (.iload 4, 2) := by decide +kernel
theorem dX7_grey_93 : dec mX7_grey 93 = .ok (.iload_n 3, 1) := by decide +kernel
theorem dX7_grey_94 : dec mX7_grey 94 = .ok (.invokestatic 231, 3) := by decide +kernel
theorem dX7_grey_97 : dec mX7_grey 97 = .ok (.iload 5, 2) := by decide +kernel
theorem dX7_grey_99 : dec mX7_grey 99 = .ok (.ireturn, 1) := by decide +kernel
theorem dX7_fade_0 : dec mX7_fade 0 = .ok (.iload_n 1, 1) := by decide +kernel
theorem dX7_fade_1 : dec mX7_fade 1 = .ok (.invokestatic 226, 3) := by decide +kernel
theorem dX7_fade_4 : dec mX7_fade 4 = .ok (.ifCond .eq 10, 3) := by decide +kernel
theorem dX7_fade_7 : dec mX7_fade 7 = .ok (.iload_n 2, 1) := by decide +kernel
theorem dX7_fade_8 : dec mX7_fade 8 = .ok (.invokestatic 226, 3) := by decide +kernel
theorem dX7_fade_11 : dec mX7_fade 11 = .ok (.ifCond .ne 13, 3) := by decide +kernel
theorem dX7_fade_14 : dec mX7_fade 14 = .ok (.new 44, 3) := by decide +kernel
theorem dX7_fade_17 : dec mX7_fade 17 = .ok (.dup, 1) := by decide +kernel
theorem dX7_fade_18 : dec mX7_fade 18 = .ok (.ldc 229, 2) := by decide +kernel
theorem dX7_fade_20 : dec mX7_fade 20 = .ok (.invokespecial 48, 3) := by decide +kernel
theorem dX7_fade_23 : dec mX7_fade 23 = .ok (.athrow, 1) := by decide +kernel
theorem dX7_fade_24 : dec mX7_fade 24 = .ok (.aload_n 0, 1) := by decide +kernel
theorem dX7_fade_25 : dec mX7_fade 25 = .ok (.getfield 22, 3) := by decide +kernel
theorem dX7_fade_28 : dec mX7_fade 28 = .ok (.aload_n 0, 1) := by decide +kernel
theorem dX7_fade_29 : dec mX7_fade 29 = .ok (.getfield 10, 3) := by decide +kernel
theorem dX7_fade_32 : dec mX7_fade 32 = .ok (.getfield 101, 3) := by decide +kernel
theorem dX7_fade_35 : dec mX7_fade 35 = .ok (.invokevirtual 222, 3) := by decide +kernel
theorem dX7_fade_38 : dec mX7_fade 38 = .ok (.aload_n 0, 1) := by decide +kernel
theorem dX7_fade_39 : dec mX7_fade 39 = .ok (.getfield 10, 3) := by decide +kernel
theorem dX7_fade_42 : dec mX7_fade 42 = .ok (.iload_n 1, 1) := by decide +kernel
theorem dX7_fade_43 : dec mX7_fade 43 = .ok (.iload_n 2, 1) := by decide +kernel
theorem dX7_fade_44 : dec mX7_fade 44 = .ok (.invokevirtual 235, 3) := by decide +kernel
theorem dX7_fade_47 : dec mX7_fade 47 = .ok (.aload_n 0, 1) := by decide +kernel
theorem dX7_fade_48 : dec mX7_fade 48 = .ok (.getfield 10, 3) := by decide +kernel
theorem dX7_fade_51 : dec mX7_fade 51 = .ok (.invokevirtual 122, 3) := by decide +kernel
theorem dX7_fade_54 : dec mX7_fade 54 = .ok (.ireturn, 1) := by decide +kernel
theorem dX7_turn_0 : dec mX7_turn 0 = .ok (.aload_n 0, 1) := by decide +kernel
theorem dX7_turn_1 : dec mX7_turn 1 = .ok (.getfield 10, 3) := by decide +kernel
theorem dX7_turn_4 : dec mX7_turn 4 = .ok (.iload_n 1, 1) := by decide +kernel
theorem dX7_turn_5 : dec mX7_turn 5 = .ok (.invokevirtual 181, 3) := by decide +kernel
theorem dX7_turn_8 : dec mX7_turn 8 = .ok (.ifCond .ne 13, 3) := by decide +kernel
theorem dX7_turn_11 : dec mX7_turn 11 = .ok (.new 151, 3) := by decide +kernel
theorem dX7_turn_14 : dec mX7_turn 14 = .ok (.dup, 1) := by decide +kernel
theorem dX7_turn_15 : dec mX7_turn 15 = .ok (.ldc 185, 2) := by decide +kernel
theorem dX7_turn_17 : dec mX7_turn 17 = .ok (.invokespecial 155, 3) := by decide +kernel
theorem dX7_turn_20 : dec mX7_turn 20 = .ok (.athrow, 1) := by decide +kernel
theorem dX7_turn_21 : dec mX7_turn 21 = .ok (.aload_n 0, 1) := by decide +kernel
theorem dX7_turn_22 : dec mX7_turn 22 = .ok (.getfield 10, 3) := by decide +kernel
theorem dX7_turn_25 : dec mX7_turn 25 = .ok (.iload_n 1, 1) := by decide +kernel
theorem dX7_turn_26 : dec mX7_turn 26 = .ok (.invokevirtual 238, 3) := by decide +kernel
theorem dX7_turn_29 : dec mX7_turn 29 = .ok (.ifCond .eq 13, 3) := by decide +kernel
theorem dX7_turn_32 : dec mX7_turn 32 = .ok (.new 55, 3) := by decide +kernel
theorem dX7_turn_35 : dec mX7_turn 35 = .ok (.dup, 1) := by decide +kernel
theorem dX7_turn_36 : dec mX7_turn 36 = .ok (.ldc 241, 2) := by decide +kernel
theorem dX7_turn_38 : dec mX7_turn 38 = .ok (.invokespecial 59, 3) := by decide +kernel
theorem dX7_turn_41 : dec mX7_turn 41 = .ok (.athrow, 1) := by decide +kernel
theorem dX7_turn_42 : dec mX7_turn 42 = .ok (.aload_n 0, 1) := by decide +kernel
theorem dX7_turn_43 : dec mX7_turn 43 = .ok (.getfield 22, 3) := by decide +kernel
theorem dX7_turn_46 : dec mX7_turn 46 = .ok (.aload_n 0, 1) := by decide +kernel
theorem dX7_turn_47 : dec mX7_turn 47 = .ok (.getfield 10, 3) := by decide +kernel
theorem dX7_turn_50 : dec mX7_turn 50 = .ok (.getfield 101, 3) := by decide +kernel
theorem dX7_turn_53 : dec mX7_turn 53 = .ok (.invokevirtual 222, 3) := by decide +kernel
theorem dX7_turn_56 : dec mX7_turn 56 = .ok (.aload_n 0, 1) := by decide +kernel
theorem dX7_turn_57 : dec mX7_turn 57 = .ok (.getfield 10, 3) := by decide +kernel
theorem dX7_turn_60 : dec mX7_turn 60 = .ok (.invokevirtual 122, 3) := by decide +kernel
theorem dX7_turn_63 : dec mX7_turn 63 = .ok (.istore_n 2, 1) := by decide +kernel
theorem dX7_turn_64 : dec mX7_turn 64 = .ok (.aload_n 0, 1) := by decide +kernel
theorem dX7_turn_65 : dec mX7_turn 65 = .ok (.getfield 10, 3) := by decide +kernel
theorem dX7_turn_68 : dec mX7_turn 68 = .ok (.iload_n 1, 1) := by decide +kernel
theorem dX7_turn_69 : dec mX7_turn 69 = .ok (.invokevirtual 243, 3) := by decide +kernel
theorem dX7_turn_72 : dec mX7_turn 72 = .ok (.iload_n 2, 1) := by decide +kernel
theorem dX7_turn_73 : dec mX7_turn 73 = .ok (.aload_n 0, 1) := by decide +kernel
theorem dX7_turn_74 : dec mX7_turn 74 = .ok (.getfield 10, 3) := by decide +kernel
theorem dX7_turn_77 : dec mX7_turn 77 = .ok (.invokevirtual 122, 3) := by decide +kernel
theorem dX7_turn_80 : dec mX7_turn 80 = .ok (.isub, 1) := by decide +kernel
theorem dX7_turn_81 : dec mX7_turn 81 = .ok (.ireturn, 1) := by decide +kernel
theorem dX7_swap_0 : dec mX7_swap 0 = .ok (.aload_n 0, 1) := by decide +kernel
theorem dX7_swap_1 : dec mX7_swap 1 = .ok (.getfield 10, 3) := by decide +kernel
theorem dX7_swap_4 : dec mX7_swap 4 = .ok (.iload_n 1, 1) := by decide +kernel
theorem dX7_swap_5 : dec mX7_swap 5 = .ok (.invokevirtual 181, 3) := by decide +kernel
theorem dX7_swap_8 : dec mX7_swap 8 = .ok (.ifCond .eq 14, 3) := by decide +kernel
theorem dX7_swap_11 : dec mX7_swap 11 = .ok (.aload_n 0, 1) := by decide +kernel
theorem dX7_swap_12 : dec mX7_swap 12 = .ok (.getfield 10, 3) := by decide +kernel
theorem dX7_swap_15 : dec mX7_swap 15 = .ok (.iload_n 2, 1) := by decide +kernel
theorem dX7_swap_16 : dec mX7_swap 16 = .ok (.invokevirtual 181, 3) := by decide +kernel
theorem dX7_swap_19 : dec mX7_swap 19 = .ok (.ifCond .ne 13, 3) := by decide +kernel
theorem dX7_swap_22 : dec mX7_swap 22 = .ok (.new 151, 3) := by decide +kernel
theorem dX7_swap_25 : dec mX7_swap 25 = .ok (.dup, 1) := by decide +kernel
theorem dX7_swap_26 : dec mX7_swap 26 = .ok (.ldc 185, 2) := by decide +kernel
theorem dX7_swap_28 : dec mX7_swap 28 = .ok (.invokespecial 155, 3) := by decide +kernel
theorem dX7_swap_31 : dec mX7_swap 31 = .ok (.athrow, 1) := by decide +kernel
theorem dX7_swap_32 : dec mX7_swap 32 = .ok (.iload_n 1, 1) := by decide +kernel
theorem dX7_swap_33 : dec mX7_swap 33 = .ok (.iload_n 2, 1) := by decide +kernel
theorem dX7_swap_34 : dec mX7_swap 34 = .ok (.if_icmp .ne 13, 3) := by decide +kernel
theorem dX7_swap_37 : dec mX7_swap 37 = .ok (.new 44, 3) := by decide +kernel
theorem dX7_swap_40 : dec mX7_swap 40 = .ok (.dup, 1) := by decide +kernel
theorem dX7_swap_41 : dec mX7_swap 41 = .ok (.ldc 246, 2) := by decide +kernel
theorem dX7_swap_43 : dec mX7_swap 43 = .ok (.invokespecial 48, 3) := by decide +kernel
theorem dX7_swap_46 : dec mX7_swap 46 = .ok (.athrow, 1) := by decide +kernel
theorem dX7_swap_47 : dec mX7_swap 47 = .ok (.aload_n 0, 1) := by decide +kernel
theorem dX7_swap_48 : dec mX7_swap 48 = .ok (.getfield 10, 3) := by decide +kernel
theorem dX7_swap_51 : dec mX7_swap 51 = .ok (.iload_n 1, 1) := by decide +kernel
theorem dX7_swap_52 : dec mX7_swap 52 = .ok (.invokevirtual 238, 3) := by decide +kernel
theorem dX7_swap_55 : dec mX7_swap 55 = .ok (.ifCond .ne 14, 3) := by decide +kernel
theorem dX7_swap_58 : dec mX7_swap 58 = .ok (.aload_n 0, 1) := by decide +kernel
theorem dX7_swap_59 : dec mX7_swap 59 = .ok (.getfield 10, 3) := by decide +kernel
theorem dX7_swap_62 : dec mX7_swap 62 = .ok (.iload_n 2, 1) := by decide +kernel
theorem dX7_swap_63 : dec mX7_swap 63 = .ok (.invokevirtual 238, 3) := by decide +kernel
theorem dX7_swap_66 : dec mX7_swap 66 = .ok (.ifCond .eq 13, 3) := by decide +kernel
theorem dX7_swap_69 : dec mX7_swap 69 = .ok (.new 55, 3) := by decide +kernel
theorem dX7_swap_72 : dec mX7_swap 72 = .ok (.dup, 1) := by decide +kernel
theorem dX7_swap_73 : dec mX7_swap 73 = .ok (.ldc 248, 2) := by decide +kernel
theorem dX7_swap_75 : dec mX7_swap 75 = .ok (.invokespecial 59, 3) := by decide +kernel
theorem dX7_swap_78 : dec mX7_swap 78 = .ok (.athrow, 1) := by decide +kernel
theorem dX7_swap_79 : dec mX7_swap 79 = .ok (.aload_n 0, 1) := by decide +kernel
theorem dX7_swap_80 : dec mX7_swap 80 = .ok (.getfield 22, 3) := by decide +kernel
theorem dX7_swap_83 : dec mX7_swap 83 = .ok (.aload_n 0, 1) := by decide +kernel
theorem dX7_swap_84 : dec mX7_swap 84 = .ok (.getfield 10, 3) := by decide +kernel
theorem dX7_swap_87 : dec mX7_swap 87 = .ok (.getfield 101, 3) := by decide +kernel
theorem dX7_swap_90 : dec mX7_swap 90 = .ok (.invokevirtual 222, 3) := by decide +kernel
theorem dX7_swap_93 : dec mX7_swap 93 = .ok (.aload_n 0, 1) := by decide +kernel
theorem dX7_swap_94 : dec mX7_swap 94 = .ok (.getfield 10, 3) := by decide +kernel
theorem dX7_swap_97 : dec mX7_swap 97 = .ok (.invokevirtual 122, 3) := by decide +kernel
theorem dX7_swap_100 : dec mX7_swap 100 = .ok (.istore_n 3, 1) := by decide +kernel
theorem dX7_swap_101 : dec mX7_swap 101 = .ok (.aload_n 0, 1) := by decide +kernel
theorem dX7_swap_102 : dec mX7_swap 102 = .ok (.getfield 10, 3) := by decide +kernel
theorem dX7_swap_105 : dec mX7_swap 105 = .ok (.iload_n 1, 1) := by decide +kernel
theorem dX7_swap_106 : dec mX7_swap 106 = .ok (.iload_n 2, 1) := by decide +kernel
theorem dX7_swap_107 : dec mX7_swap 107 = .ok (.invokevirtual 250, 3) := by decide +kernel
theorem dX7_swap_110 : dec mX7_swap 110 = .ok (.iload_n 3, 1) := by decide +kernel
theorem dX7_swap_111 : dec mX7_swap 111 = .ok (.aload_n 0, 1) := by decide +kernel
theorem dX7_swap_112 : dec mX7_swap 112 = .ok (.getfield 10, 3) := by decide +kernel
theorem dX7_swap_115 : dec mX7_swap 115 = .ok (.invokevirtual 122, 3) := by decide +kernel
theorem dX7_swap_118 : dec mX7_swap 118 = .ok (.isub, 1) := by decide +kernel
theorem dX7_swap_119 : dec mX7_swap 119 = .ok (.ireturn, 1) := by decide +kernel
theorem dX7_flip_0 : dec mX7_flip 0 = .ok (.aload_n 0, 1) := by decide +kernel
theorem dX7_flip_1 : dec mX7_flip 1 = .ok (.getfield 10, 3) := by decide +kernel
theorem dX7_flip_4 : dec mX7_flip 4 = .ok (.iload_n 1, 1) := by decide +kernel
theorem dX7_flip_5 : dec mX7_flip 5 = .ok (.iload_n 2, 1) := by decide +kernel
theorem dX7_flip_6 : dec mX7_flip 6 = .ok (.invokevirtual 147, 3) := by decide +kernel
theorem dX7_flip_9 : dec mX7_flip 9 = .ok (.ifCond .ne 13, 3) := by decide +kernel
theorem dX7_flip_12 : dec mX7_flip 12 = .ok (.new 151, 3) := by decide +kernel
theorem dX7_flip_15 : dec mX7_flip 15 = .ok (.dup, 1) := by decide +kernel
theorem dX7_flip_16 : dec mX7_flip 16 = .ok (.ldc 153, 2) := by decide +kernel
theorem dX7_flip_18 : dec mX7_flip 18 = .ok (.invokespecial 155, 3) := by decide +kernel
theorem dX7_flip_21 : dec mX7_flip 21 = .ok (.athrow, 1) := by decide +kernel
theorem dX7_flip_22 : dec mX7_flip 22 = .ok (.aload_n 0, 1) := by decide +kernel
theorem dX7_flip_23 : dec mX7_flip 23 = .ok (.getfield 10, 3) := by decide +kernel
theorem dX7_flip_26 : dec mX7_flip 26 = .ok (.aload_n 0, 1) := by decide +kernel
theorem dX7_flip_27 : dec mX7_flip 27 = .ok (.getfield 10, 3) := by decide +kernel
theorem dX7_flip_30 : dec mX7_flip 30 = .ok (.iload_n 1, 1) := by decide +kernel
theorem dX7_flip_31 : dec mX7_flip 31 = .ok (.iload_n 2, 1) := by decide +kernel
theorem dX7_flip_32 : dec mX7_flip 32 = .ok (.invokevirtual 156, 3) := by decide +kernel
theorem dX7_flip_35 : dec mX7_flip 35 = .ok (.invokevirtual 253, 3) := by decide +kernel
theorem dX7_flip_38 : dec mX7_flip 38 = .ok (.istore_n 3, 1) := by decide +kernel
theorem dX7_flip_39 : dec mX7_flip 39 = .ok (.iload_n 3, 1) := by decide +kernel
theorem dX7_flip_40 : dec mX7_flip 40 = .ok (.iconst (-1), 1) := by decide +kernel
theorem dX7_flip_41 : dec mX7_flip 41 = .ok (.if_icmp .eq 14, 3) := by decide +kernel
theorem dX7_flip_44 : dec mX7_flip 44 = .ok (.aload_n 0, 1) := by decide +kernel
theorem dX7_flip_45 : dec mX7_flip 45 = .ok (.getfield 10, 3) := by decide +kernel
theorem dX7_flip_48 : dec mX7_flip 48 = .ok (.iload_n 3, 1) := by decide +kernel
theorem dX7_flip_49 : dec mX7_flip 49 = .ok (.invokevirtual 256, 3) := by decide +kernel
theorem dX7_flip_52 : dec mX7_flip 52 = .ok (.ifCond .ne 14, 3) := by decide +kernel
theorem dX7_flip_55 : dec mX7_flip 55 = .ok (.new 55, 3) := by decide +kernel
theorem dX7_flip_58 : dec mX7_flip 58 = .ok (.dup, 1) := by decide +kernel
theorem dX7_flip_59 : dec mX7_flip 59 = .ok (.ldc_w 259, 3) := by decide +kernel
theorem dX7_flip_62 : dec mX7_flip 62 = .ok (.invokespecial 59, 3) := by decide +kernel
theorem dX7_flip_65 : dec mX7_flip 65 = .ok (.athrow, 1) := by decide +kernel
theorem dX7_flip_66 : dec mX7_flip 66 = .ok (.aload_n 0, 1) := by decide +kernel
theorem dX7_flip_67 : dec mX7_flip 67 = .ok (.getfield 22, 3) := by decide +kernel
theorem dX7_flip_70 : dec mX7_flip 70 = .ok (.aload_n 0, 1) := by decide +kernel
theorem dX7_flip_71 : dec mX7_flip 71 = .ok (.getfield 10, 3) := by decide +kernel
theorem dX7_flip_74 : dec mX7_flip 74 = .ok (.getfield 101, 3) := by decide +kernel
theorem dX7_flip_77 : dec mX7_flip 77 = .ok (.invokevirtual 222, 3) := by decide +kernel
theorem dX7_flip_80 : dec mX7_flip 80 = .ok (.aload_n 0, 1) := by decide +kernel
theorem dX7_flip_81 : dec mX7_flip 81 = .ok (.getfield 10, 3) := by decide +kernel
theorem dX7_flip_84 : dec mX7_flip 84 = .ok (.invokevirtual 122, 3) := by decide +kernel
theorem dX7_flip_87 : dec mX7_flip 87 = .ok (.istore 4, 2) := by decide +kernel
theorem dX7_flip_89 : dec mX7_flip 89 = .ok (.aload_n 0, 1) := by decide +kernel
theorem dX7_flip_90 : dec mX7_flip 90 = .ok (.getfield 10, 3) := by decide +kernel
theorem dX7_flip_93 : dec mX7_flip 93 = .ok (.iload_n 3, 1) := by decide +kernel
theorem dX7_flip_94 : dec mX7_flip 94 = .ok (.invokevirtual 261, 3) := by decide +kernel
theorem dX7_flip_97 : dec mX7_flip 97 = .ok (.iload 4, 2) := by decide +kernel
theorem dX7_flip_99 : dec mX7_flip 99 = .ok (.aload_n 0, 1) := by decide +kernel
theorem dX7_flip_100 : dec mX7_flip 100 = .ok (.getfield 10, 3) := by decide +kernel
theorem dX7_flip_103 : dec mX7_flip 103 = .ok (.invokevirtual 122, 3) := by decide +kernel
theorem dX7_flip_106 : dec mX7_flip 106 = .ok (.isub, 1) := by decide +kernel
theorem dX7_flip_107 : dec mX7_flip 107 = .ok (.ireturn, 1) := by decide +kernel
theorem dX7_hold_0 : dec mX7_hold 0 = .ok (.aload_n 0, 1) := by decide +kernel
theorem dX7_hold_1 : dec mX7_hold 1 = .ok (.getfield 10, 3) := by decide +kernel
theorem dX7_hold_4 : dec mX7_hold 4 = .ok (.iload_n 1, 1) := by decide +kernel
theorem dX7_hold_5 : dec mX7_hold 5 = .ok (.invokevirtual 181, 3) := by decide +kernel
theorem dX7_hold_8 : dec mX7_hold 8 = .ok (.ifCond .ne 13, 3) := by decide +kernel
theorem dX7_hold_11 : dec mX7_hold 11 = .ok (.new 151, 3) := by decide +kernel
theorem dX7_hold_14 : dec mX7_hold 14 = .ok (.dup, 1) := by decide +kernel
theorem dX7_hold_15 : dec mX7_hold 15 = .ok (.ldc 185, 2) := by decide +kernel
theorem dX7_hold_17 : dec mX7_hold 17 = .ok (.invokespecial 155, 3) := by decide +kernel
theorem dX7_hold_20 : dec mX7_hold 20 = .ok (.athrow, 1) := by decide +kernel
theorem dX7_hold_21 : dec mX7_hold 21 = .ok (.aload_n 0, 1) := by decide +kernel
theorem dX7_hold_22 : dec mX7_hold 22 = .ok (.getfield 22, 3) := by decide +kernel
theorem dX7_hold_25 : dec mX7_hold 25 = .ok (.aload_n 0, 1) := by decide +kernel
theorem dX7_hold_26 : dec mX7_hold 26 = .ok (.getfield 10, 3) := by decide +kernel
theorem dX7_hold_29 : dec mX7_hold 29 = .ok (.getfield 101, 3) := by decide +kernel
theorem dX7_hold_32 : dec mX7_hold 32 = .ok (.invokevirtual 222, 3) := by decide +kernel
theorem dX7_hold_35 : dec mX7_hold 35 = .ok (.aload_n 0, 1) := by decide +kernel
theorem dX7_hold_36 : dec mX7_hold 36 = .ok (.getfield 10, 3) := by decide +kernel
theorem dX7_hold_39 : dec mX7_hold 39 = .ok (.getfield 101, 3) := by decide +kernel
theorem dX7_hold_42 : dec mX7_hold 42 = .ok (.getfield 136, 3) := by decide +kernel
theorem dX7_hold_45 : dec mX7_hold 45 = .ok (.iload_n 1, 1) := by decide +kernel
theorem dX7_hold_46 : dec mX7_hold 46 = .ok (.iload_n 2, 1) := by decide +kernel
theorem dX7_hold_47 : dec mX7_hold 47 = .ok (.ifCond .eq 7, 3) := by decide +kernel
theorem dX7_hold_50 : dec mX7_hold 50 = .ok (.iconst 1, 1) := by decide +kernel
theorem dX7_hold_51 : dec mX7_hold 51 = .ok (.goto 4, 3) := by decide +kernel
theorem dX7_hold_54 : dec mX7_hold 54 = .ok (.iconst 0, 1) := by decide +kernel
theorem dX7_hold_55 : dec mX7_hold 55 = .ok (.invokestatic 231, 3) := by decide +kernel
theorem dX7_hold_58 : dec mX7_hold 58 = .ok (.aload_n 0, 1) := by decide +kernel
theorem dX7_hold_59 : dec mX7_hold 59 = .ok (.getfield 10, 3) := by decide +kernel
theorem dX7_hold_62 : dec mX7_hold 62 = .ok (.aload_n 0, 1) := by decide +kernel
theorem dX7_hold_63 : dec mX7_hold 63 = .ok (.getfield 10, 3) := by decide +kernel
theorem dX7_hold_66 : dec mX7_hold 66 = .ok (.getfield 101, 3) := by decide +kernel
theorem dX7_hold_69 : dec mX7_hold 69 = .ok (.getfield 136, 3) := by decide +kernel
theorem dX7_hold_72 : dec mX7_hold 72 = .ok (.invokevirtual 132, 3) := by decide +kernel
theorem dX7_hold_75 : dec mX7_hold 75 = .ok (.ireturn, 1) := by decide +kernel
theorem dX7_lay_0 : dec mX7_lay 0 = .ok (.aload_n 0, 1) := by decide +kernel
theorem dX7_lay_1 : dec mX7_lay 1 = .ok (.getfield 22, 3) := by decide +kernel
theorem dX7_lay_4 : dec mX7_lay 4 = .ok (.aload_n 0, 1) := by decide +kernel
theorem dX7_lay_5 : dec mX7_lay 5 = .ok (.getfield 10, 3) := by decide +kernel
theorem dX7_lay_8 : dec mX7_lay 8 = .ok (.getfield 101, 3) := by decide +kernel
theorem dX7_lay_11 : dec mX7_lay 11 = .ok (.invokevirtual 222, 3) := by decide +kernel
theorem dX7_lay_14 : dec mX7_lay 14 = .ok (.aload_n 0, 1) := by decide +kernel
theorem dX7_lay_15 : dec mX7_lay 15 = .ok (.getfield 10, 3) := by decide +kernel
theorem dX7_lay_18 : dec mX7_lay 18 = .ok (.invokevirtual 122, 3) := by decide +kernel
theorem dX7_lay_21 : dec mX7_lay 21 = .ok (.istore_n 1, 1) := by decide +kernel
theorem dX7_lay_22 : dec mX7_lay 22 = .ok (.aload_n 0, 1) := by decide +kernel
theorem dX7_lay_23 : dec mX7_lay 23 = .ok (.getfield 10, 3) := by decide +kernel
theorem dX7_lay_26 : dec mX7_lay 26 = .ok (.invokevirtual 264, 3) := by decide +kernel
theorem dX7_lay_29 : dec mX7_lay 29 = .ok (.iload_n 1, 1) := by decide +kernel
theorem dX7_lay_30 : dec mX7_lay 30 = .ok (.aload_n 0, 1) := by decide +kernel
theorem dX7_lay_31 : dec mX7_lay 31 = .ok (.getfield 10, 3) := by decide +kernel
theorem dX7_lay_34 : dec mX7_lay 34 = .ok (.invokevirtual 122, 3) := by decide +kernel
theorem dX7_lay_37 : dec mX7_lay 37 = .ok (.isub, 1) := by decide +kernel
theorem dX7_lay_38 : dec mX7_lay 38 = .ok (.ireturn, 1) := by decide +kernel
theorem dX7_improve_0 : dec mX7_improve 0 = .ok (.iload_n 1, 1) := by decide +kernel
theorem dX7_improve_1 : dec mX7_improve 1 = .ok (.invokestatic 267, 3) := by decide +kernel
theorem dX7_improve_4 : dec mX7_improve 4 = .ok (.ifCond .ne 14, 3) := by decide +kernel
theorem dX7_improve_7 : dec mX7_improve 7 = .ok (.new 44, 3) := by decide +kernel
theorem dX7_improve_10 : dec mX7_improve 10 = .ok (.dup, 1) := by decide +kernel
theorem dX7_improve_11 : dec mX7_improve 11 = .ok (.ldc_w 270, 3) := by decide +kernel
theorem dX7_improve_14 : dec mX7_improve 14 = .ok (.invokespecial 48, 3) := by decide +kernel
theorem dX7_improve_17 : dec mX7_improve 17 = .ok (.athrow, 1) := by decide +kernel
theorem dX7_improve_18 : dec mX7_improve 18 = .ok (.aload_n 0, 1) := by decide +kernel
theorem dX7_improve_19 : dec mX7_improve 19 = .ok (.getfield 22, 3) := by decide +kernel
theorem dX7_improve_22 : dec mX7_improve 22 = .ok (.aload_n 0, 1) := by decide +kernel
theorem dX7_improve_23 : dec mX7_improve 23 = .ok (.getfield 10, 3) := by decide +kernel
theorem dX7_improve_26 : dec mX7_improve 26 = .ok (.getfield 101, 3) := by decide +kernel
theorem dX7_improve_29 : dec mX7_improve 29 = .ok (.invokevirtual 222, 3) := by decide +kernel
theorem dX7_improve_32 : dec mX7_improve 32 = .ok (.aload_n 0, 1) := by decide +kernel
theorem dX7_improve_33 : dec mX7_improve 33 = .ok (.getfield 10, 3) := by decide +kernel
theorem dX7_improve_36 : dec mX7_improve 36 = .ok (.invokevirtual 122, 3) := by decide +kernel
theorem dX7_improve_39 : dec mX7_improve 39 = .ok (.istore_n 2, 1) := by decide +kernel
theorem dX7_improve_40 : dec mX7_improve 40 = .ok (.aload_n 0, 1) := by decide +kernel
theorem dX7_improve_41 : dec mX7_improve 41 = .ok (.getfield 10, 3) := by decide +kernel
theorem dX7_improve_44 : dec mX7_improve 44 = .ok (.iload_n 1, 1) := by decide +kernel
theorem dX7_improve_45 : dec mX7_improve 45 = .ok (.invokevirtual 272, 3) := by decide +kernel
theorem dX7_improve_48 : dec mX7_improve 48 = .ok (.iload_n 2, 1) := by decide +kernel
theorem dX7_improve_49 : dec mX7_improve 49 = .ok (.aload_n 0, 1) := by decide +kernel
theorem dX7_improve_50 : dec mX7_improve 50 = .ok (.getfield 10, 3) := by decide +kernel
theorem dX7_improve_53 : dec mX7_improve 53 = .ok (.invokevirtual 122, 3) := by decide +kernel
theorem dX7_improve_56 : dec mX7_improve 56 = .ok (.isub, 1) := by decide +kernel
theorem dX7_improve_57 : dec mX7_improve 57 = .ok (.ireturn, 1) := by decide +kernel
theorem dX7_undo_0 : dec mX7_undo 0 = .ok (.aload_n 0, 1) := by decide +kernel
theorem dX7_undo_1 : dec mX7_undo 1 = .ok (.getfield 22, 3) := by decide +kernel
theorem dX7_undo_4 : dec mX7_undo 4 = .ok (.invokevirtual 275, 3) := by decide +kernel
theorem dX7_undo_7 : dec mX7_undo 7 = .ok (.ifCond .eq 14, 3) := by decide +kernel
theorem dX7_undo_10 : dec mX7_undo 10 = .ok (.new 55, 3) := by decide +kernel
theorem dX7_undo_13 : dec mX7_undo 13 = .ok (.dup, 1) := by decide +kernel
theorem dX7_undo_14 : dec mX7_undo 14 = .ok (.ldc_w 278, 3) := by decide +kernel
theorem dX7_undo_17 : dec mX7_undo 17 = .ok (.invokespecial 59, 3) := by decide +kernel
theorem dX7_undo_20 : dec mX7_undo 20 = .ok (.athrow, 1) := by decide +kernel
theorem dX7_undo_21 : dec mX7_undo 21 = .ok (.aload_n 0, 1) := by decide +kernel
theorem dX7_undo_22 : dec mX7_undo 22 = .ok (.getfield 10, 3) := by decide +kernel
theorem dX7_undo_25 : dec mX7_undo 25 = .ok (.aload_n 0, 1) := by decide +kernel
theorem dX7_undo_26 : dec mX7_undo 26 = .ok (.getfield 22, 3) := by decide +kernel
theorem dX7_undo_29 : dec mX7_undo 29 = .ok (.invokevirtual 280, 3) := by decide +kernel
theorem dX7_undo_32 : dec mX7_undo 32 = .ok (.invokevirtual 284, 3) := by decide +kernel
theorem dX7_undo_35 : dec mX7_undo 35 = .ok (.aload_n 0, 1) := by decide +kernel
theorem dX7_undo_36 : dec mX7_undo 36 = .ok (.getfield 22, 3) := by decide +kernel
theorem dX7_undo_39 : dec mX7_undo 39 = .ok (.getfield 287, 3) := by decide +kernel
theorem dX7_undo_42 : dec mX7_undo 42 = .ok (.ireturn, 1) := by decide +kernel
theorem dX7_gain_0 : dec mX7_gain 0 = .ok (.aload_n 0, 1) := by decide +kernel
theorem dX7_gain_1 : dec mX7_gain 1 = .ok (.getfield 10, 3) := by decide +kernel
theorem dX7_gain_4 : dec mX7_gain 4 = .ok (.iload_n 1, 1) := by decide +kernel
theorem dX7_gain_5 : dec mX7_gain 5 = .ok (.invokevirtual 290, 3) := by decide +kernel
theorem dX7_gain_8 : dec mX7_gain 8 = .ok (.ifCond .ne 14, 3) := by decide +kernel
theorem dX7_gain_11 : dec mX7_gain 11 = .ok (.new 44, 3) := by decide +kernel
theorem dX7_gain_14 : dec mX7_gain 14 = .ok (.dup, 1) := by decide +kernel
theorem dX7_gain_15 : dec mX7_gain 15 = .ok (.ldc_w 293, 3) := by decide +kernel
theorem dX7_gain_18 : dec mX7_gain 18 = .ok (.invokespecial 48, 3) := by decide +kernel
theorem dX7_gain_21 : dec mX7_gain 21 = .ok (.athrow, 1) := by decide +kernel
theorem dX7_gain_22 : dec mX7_gain 22 = .ok (.aload_n 0, 1) := by decide +kernel
theorem dX7_gain_23 : dec mX7_gain 23 = .ok (.getfield 10, 3) := by decide +kernel
theorem dX7_gain_26 : dec mX7_gain 26 = .ok (.iload_n 1, 1) := by decide +kernel
theorem dX7_gain_27 : dec mX7_gain 27 = .ok (.invokevirtual 295, 3) := by decide +kernel
theorem dX7_gain_30 : dec mX7_gain 30 = .ok (.ireturn, 1) := by decide +kernel
theorem dX7_best_0 : dec mX7_best 0 = .ok (.iload_n 1, 1) := by decide +kernel
theorem dX7_best_1 : dec mX7_best 1 = .ok (.ifCond .eq 19, 3) := by decide +kernel
theorem dX7_best_4 : dec mX7_best 4 = .ok (.iload_n 1, 1) := by decide +kernel
theorem dX7_best_5 : dec mX7_best 5 = .ok (.iconst 1, 1) := by decide +kernel
theorem dX7_best_6 : dec mX7_best 6 = .ok (.if_icmp .eq 14, 3) := by decide +kernel
theorem dX7_best_9 : dec mX7_best 9 = .ok (.new 44, 3) := by decide +kernel
theorem dX7_best_12 : dec mX7_best 12 = .ok (.dup, 1) := by decide +kernel
theorem dX7_best_13 : dec mX7_best 13 = .ok (.ldc_w 298, 3) := by decide +kernel
theorem dX7_best_16 : dec mX7_best 16 = .ok (.invokespecial 48, 3) := by decide +kernel
theorem dX7_best_19 : dec mX7_best 19 = .ok (.athrow, 1) := by decide +kernel
theorem dX7_best_20 : dec mX7_best 20 = .ok (.aload_n 0, 1) := by decide +kernel
theorem dX7_best_21 : dec mX7_best 21 = .ok (.getfield 10, 3) := by decide +kernel
theorem dX7_best_24 : dec mX7_best 24 = .ok (.getfield 300, 3) := by decide +kernel
theorem dX7_best_27 : dec mX7_best 27 = .ok (.aload_n 0, 1) := by decide +kernel
theorem dX7_best_28 : dec mX7_best 28 = .ok (.getfield 10, 3) := by decide +kernel
theorem dX7_best_31 : dec mX7_best 31 = .ok (.invokevirtual 304, 3) := by decide +kernel
theorem dX7_best_34 : dec mX7_best 34 = .ok (.iload_n 1, 1) := by decide +kernel
theorem dX7_best_35 : dec mX7_best 35 = .ok (.ifCond .ne 16, 3) := by decide +kernel
theorem dX7_best_38 : dec mX7_best 38 = .ok (.aload_n 0, 1) := by decide +kernel
theorem dX7_best_39 : dec mX7_best 39 = .ok (.getfield 10, 3) := by decide +kernel
theorem dX7_best_42 : dec mX7_best 42 = .ok (.getfield 300, 3) := by decide +kernel
theorem dX7_best_45 : dec mX7_best 45 = .ok (.getfield 310, 3) := by decide +kernel
theorem dX7_best_48 : dec mX7_best 48 = .ok (.goto 13, 3) := by decide +kernel
theorem dX7_best_51 : dec mX7_best 51 = .ok (.aload_n 0, 1) := by decide +kernel
theorem dX7_best_52 : dec mX7_best 52 = .ok (.getfield 10, 3) := by decide +kernel
theorem dX7_best_55 : dec mX7_best 55 = .ok (.getfield 300, 3) := by decide +kernel
theorem dX7_best_58 : dec mX7_best 58 = .ok (.getfield 313, 3) := by decide +kernel
theorem dX7_best_61 : dec mX7_best 61 = .ok (.ireturn, 1) := by decide +kernel
theorem dX7_ifImproved_0 : dec mX7_ifImproved 0 = .ok (.iload_n 1, 1) := by decide +kernel
theorem dX7_ifImproved_1 : dec mX7_ifImproved 1 = .ok (.invokestatic 267, 3) := by decide +kernel
theorem dX7_ifImproved_4 : dec mX7_ifImproved 4 = .ok (.ifCond .eq 12, 3) := by decide +kernel
theorem dX7_ifImproved_7 : dec mX7_ifImproved 7 = .ok (.iload_n 2, 1) := by decide +kernel
theorem dX7_ifImproved_8 : dec mX7_ifImproved 8 = .ok (.ifCond .eq 19, 3) := by decide +kernel
theorem dX7_ifImproved_11 : dec mX7_ifImproved 11 = .ok (.iload_n 2, 1) := by decide +kernel
theorem dX7_ifImproved_12 : dec mX7_ifImproved 12 = .ok (.iconst 1, 1) := by decide +kernel
theorem dX7_ifImproved_13 : dec mX7_ifImproved 13 = .ok (.if_icmp .eq 14, 3) := by decide +kernel
theorem dX7_ifImproved_16 : dec mX7_ifImproved 16 = .ok (.new 44, 3) := by decide +kernel
theorem dX7_ifImproved_19 : dec mX7_ifImproved 19 = .ok (.dup, 1) := by decide +kernel
theorem dX7_ifImproved_20 : dec mX7_ifImproved 20 = .ok (.ldc_w 316, 3) := by decide +kernel
theorem dX7_ifImproved_23 : dec mX7_ifImproved 23 = .ok (.invokespecial 48, 3) := by decide +kernel
theorem dX7_ifImproved_26 : dec mX7_ifImproved 26 = .ok (.athrow, 1) := by decide +kernel
theorem dX7_ifImproved_27 : dec mX7_ifImproved 27 = .ok (.aload_n 0, 1) := by decide +kernel
theorem dX7_ifImproved_28 : dec mX7_ifImproved 28 = .ok (.getfield 16, 3) := by decide +kernel
theorem dX7_ifImproved_31 : dec mX7_ifImproved 31 = .ok (.aload_n 0, 1) := by decide +kernel
theorem dX7_ifImproved_32 : dec mX7_ifImproved 32 = .ok (.getfield 10, 3) := by decide +kernel
theorem dX7_ifImproved_35 : dec mX7_ifImproved 35 = .ok (.getfield 101, 3) := by decide +kernel
theorem dX7_ifImproved_38 : dec mX7_ifImproved 38 = .ok (.invokevirtual 284, 3) := by decide +kernel
theorem dX7_ifImproved_41 : dec mX7_ifImproved 41 = .ok (.aload_n 0, 1) := by decide +kernel
theorem dX7_ifImproved_42 : dec mX7_ifImproved 42 = .ok (.getfield 16, 3) := by decide +kernel
theorem dX7_ifImproved_45 : dec mX7_ifImproved 45 = .ok (.iload_n 1, 1) := by decide +kernel
theorem dX7_ifImproved_46 : dec mX7_ifImproved 46 = .ok (.invokevirtual 272, 3) := by decide +kernel
theorem dX7_ifImproved_49 : dec mX7_ifImproved 49 = .ok (.iload_n 2, 1) := by decide +kernel
theorem dX7_ifImproved_50 : dec mX7_ifImproved 50 = .ok (.ifCond .ne 21, 3) := by decide +kernel
theorem dX7_ifImproved_53 : dec mX7_ifImproved 53 = .ok (.aload_n 0, 1) := by decide +kernel
theorem dX7_ifImproved_54 : dec mX7_ifImproved 54 = .ok (.getfield 10, 3) := by decide +kernel
theorem dX7_ifImproved_57 : dec mX7_ifImproved 57 = .ok (.invokevirtual 122, 3) := by decide +kernel
theorem dX7_ifImproved_60 : dec mX7_ifImproved 60 = .ok (.aload_n 0, 1) := by decide +kernel
theorem dX7_ifImproved_61 : dec mX7_ifImproved 61 = .ok (.getfield 16, 3) := by decide +kernel
theorem dX7_ifImproved_64 : dec mX7_ifImproved 64 = .ok (.invokevirtual 122, 3) := by decide +kernel
theorem dX7_ifImproved_67 : dec mX7_ifImproved 67 = .ok (.isub, 1) := by decide +kernel
theorem dX7_ifImproved_68 : dec mX7_ifImproved 68 = .ok (.goto 24, 3) := by decide +kernel
theorem dX7_ifImproved_71 : dec mX7_ifImproved 71 = .ok (.aload_n 0, 1) := by decide +kernel
theorem dX7_ifImproved_72 : dec mX7_ifImproved 72 = .ok (.getfield 16, 3) := by decide +kernel
theorem dX7_ifImproved_75 : dec mX7_ifImproved 75 = .ok (.getfield 101, 3) := by decide +kernel
theorem dX7_ifImproved_78 : dec mX7_ifImproved 78 = .ok (.getfield 142, 3) := by decide +kernel
theorem dX7_ifImproved_81 : dec mX7_ifImproved 81 = .ok (.aload_n 0, 1) := by decide +kernel
theorem dX7_ifImproved_82 : dec mX7_ifImproved 82 = .ok (.getfield 10, 3) := by decide +kernel
theorem dX7_ifImproved_85 : dec mX7_ifImproved 85 = .ok (.getfield 101, 3) := by decide +kernel
theorem dX7_ifImproved_88 : dec mX7_ifImproved 88 = .ok (.getfield 142, 3) := by decide +kernel
theorem dX7_ifImproved_91 : dec mX7_ifImproved 91 = .ok (.isub, 1) := by decide +kernel
theorem dX7_ifImproved_92 : dec mX7_ifImproved 92 = .ok (.ireturn, 1) := by decide +kernel
theorem dX7_least_0 : dec mX7_least 0 = .ok (.aload_n 0, 1) := by decide +kernel
theorem dX7_least_1 : dec mX7_least 1 = .ok (.getfield 10, 3) := by decide +kernel
theorem dX7_least_4 : dec mX7_least 4 = .ok (.invokevirtual 318, 3) := by decide +kernel
theorem dX7_least_7 : dec mX7_least 7 = .ok (.ireturn, 1) := by decide +kernel
theorem dX7_worst_0 : dec mX7_worst 0 = .ok (.aload_n 0, 1) := by decide +kernel
theorem dX7_worst_1 : dec mX7_worst 1 = .ok (.getfield 10, 3) := by decide +kernel
theorem dX7_worst_4 : dec mX7_worst 4 = .ok (.iload_n 1, 1) := by decide +kernel
theorem dX7_worst_5 : dec mX7_worst 5 = .ok (.invokevirtual 181, 3) := by decide +kernel
theorem dX7_worst_8 : dec mX7_worst 8 = .ok (.ifCond .ne 14, 3) := by decide +kernel
theorem dX7_worst_11 : dec mX7_worst 11 = .ok (.new 151, 3) := by decide +kernel
theorem dX7_worst_14 : dec mX7_worst 14 = .ok (.dup, 1) := by decide +kernel
theorem dX7_worst_15 : dec mX7_worst 15 = .ok (.ldc_w 321, 3) := by decide +kernel
theorem dX7_worst_18 : dec mX7_worst 18 = .ok (.invokespecial 155, 3) := by decide +kernel
theorem dX7_worst_21 : dec mX7_worst 21 = .ok (.athrow, 1) := by decide +kernel
theorem dX7_worst_22 : dec mX7_worst 22 = .ok (.aload_n 0, 1) := by decide +kernel
theorem dX7_worst_23 : dec mX7_worst 23 = .ok (.getfield 10, 3) := by decide +kernel
theorem dX7_worst_26 : dec mX7_worst 26 = .ok (.iload_n 1, 1) := by decide +kernel
theorem dX7_worst_27 : dec mX7_worst 27 = .ok (.invokevirtual 323, 3) := by decide +kernel
theorem dX7_worst_30 : dec mX7_worst 30 = .ok (.ireturn, 1) := by decide +kernel
theorem dX7_fits_0 : dec mX7_fits 0 = .ok (.aload_n 0, 1) := by decide +kernel
theorem dX7_fits_1 : dec mX7_fits 1 = .ok (.getfield 10, 3) := by decide +kernel
theorem dX7_fits_4 : dec mX7_fits 4 = .ok (.iload_n 1, 1) := by decide +kernel
theorem dX7_fits_5 : dec mX7_fits 5 = .ok (.invokevirtual 204, 3) := by decide +kernel
theorem dX7_fits_8 : dec mX7_fits 8 = .ok (.ifCond .ne 13, 3) := by decide +kernel
theorem dX7_fits_11 : dec mX7_fits 11 = .ok (.new 151, 3) := by decide +kernel
theorem dX7_fits_14 : dec mX7_fits 14 = .ok (.dup, 1) := by decide +kernel
theorem dX7_fits_15 : dec mX7_fits 15 = .ok (.ldc 207, 2) := by decide +kernel
theorem dX7_fits_17 : dec mX7_fits 17 = .ok (.invokespecial 155, 3) := by decide +kernel
theorem dX7_fits_20 : dec mX7_fits 20 = .ok (.athrow, 1) := by decide +kernel
theorem dX7_fits_21 : dec mX7_fits 21 = .ok (.aload_n 0, 1) := by decide +kernel
theorem dX7_fits_22 : dec mX7_fits 22 = .ok (.getfield 10, 3) := by decide +kernel
theorem dX7_fits_25 : dec mX7_fits 25 = .ok (.iload_n 1, 1) := by decide +kernel
theorem dX7_fits_26 : dec mX7_fits 26 = .ok (.invokevirtual 326, 3) := by decide +kernel
theorem dX7_fits_29 : dec mX7_fits 29 = .ok (.ireturn, 1) := by decide +kernel
theorem dX7_runScript_0 : dec mX7_runScript 0 = .ok (.iload_n 1, 1) := by decide +kernel
theorem dX7_runScript_1 : dec mX7_runScript 1 = .ok (.iconst 1, 1) := by decide +kernel
theorem dX7_runScript_2 : dec mX7_runScript 2 = .ok (.if_icmp .lt 23, 3) := by decide +kernel
theorem dX7_runScript_5 : dec mX7_runScript 5 = .ok (.iload_n 1, 1) := by decide +kernel
theorem dX7_runScript_6 : dec mX7_runScript 6 = .ok (.iconst 3, 1) := by decide +kernel
theorem dX7_runScript_7 : dec mX7_runScript 7 = .ok (.if_icmp .gt 18, 3) := by decide +kernel
theorem dX7_runScript_10 : dec mX7_runScript 10 = .ok (.lload_n 2, 1) := by decide +kernel
theorem dX7_runScript_11 : dec mX7_runScript 11 = .ok (.lconst 0, 1) := by decide +kernel
theorem dX7_runScript_12 : dec mX7_runScript 12 = .ok (.lcmp, 1) := by decide +kernel
theorem dX7_runScript_13 : dec mX7_runScript 13 = .ok (.ifCond .lt 12, 3) := by decide +kernel
theorem dX7_runScript_16 : dec mX7_runScript 16 = .ok (.lload_n 2, 1) := by decide +kernel
theorem dX7_runScript_17 : dec mX7_runScript 17 = .ok (.iload_n 1, 1) := by decide +kernel
theorem dX7_runScript_18 : dec mX7_runScript 18 = .ok (.invokestatic 329, 3) := by decide +kernel
theorem dX7_runScript_21 : dec mX7_runScript 21 = .ok (.lcmp, 1) := by decide +kernel
theorem dX7_runScript_22 : dec mX7_runScript 22 = .ok (.ifCond .lt 14, 3) := by decide +kernel
theorem dX7_runScript_25 : dec mX7_runScript 25 = .ok (.new 44, 3) := by decide +kernel
theorem dX7_runScript_28 : dec mX7_runScript 28 = .ok (.dup, 1) := by decide +kernel
theorem dX7_runScript_29 : dec mX7_runScript 29 = .ok (.ldc_w 333, 3) := by decide +kernel
theorem dX7_runScript_32 : dec mX7_runScript 32 = .ok (.invokespecial 48, 3) := by decide +kernel
theorem dX7_runScript_35 : dec mX7_runScript 35 = .ok (.athrow, 1) := by decide +kernel
theorem dX7_runScript_36 : dec mX7_runScript 36 = .ok (.aload_n 0, 1) := by decide +kernel
theorem dX7_runScript_37 : dec mX7_runScript 37 = .ok (.getfield 16, 3) := by decide +kernel
theorem dX7_runScript_40 : dec mX7_runScript 40 = .ok (.aload_n 0, 1) := by decide +kernel
theorem dX7_runScript_41 : dec mX7_runScript 41 = .ok (.getfield 10, 3) := by decide +kernel
theorem dX7_runScript_44 : dec mX7_runScript 44 = .ok (.getfield 101, 3) := by decide +kernel
theorem dX7_runScript_47 : dec mX7_runScript 47 = .ok (.invokevirtual 284, 3) := by decide +kernel
theorem dX7_runScript_50 : dec mX7_runScript 50 = .ok (.iconst 0, 1) := by decide +kernel
theorem dX7_runScript_51 : dec mX7_runScript 51 = .ok (.istore 4, 2) := by decide +kernel
theorem dX7_runScript_53 : dec mX7_runScript 53 = .ok (.iload 4, 2) := by decide +kernel
theorem dX7_runScript_55 : dec mX7_runScript 55 = .ok (.iload_n 1, 1) := by decide +kernel
theorem dX7_runScript_56 : dec mX7_runScript 56 = .ok (.if_icmp .ge 57, 3) := by decide +kernel
theorem dX7_runScript_59 : dec mX7_runScript 59 = .ok (.iload_n 1, 1) := by decide +kernel
theorem dX7_runScript_60 : dec mX7_runScript 60 = .ok (.iconst 1, 1) := by decide +kernel
theorem dX7_runScript_61 : dec mX7_runScript 61 = .ok (.isub, 1) := by decide +kernel
theorem dX7_runScript_62 : dec mX7_runScript 62 = .ok (.iload 4, 2) := by decide +kernel
theorem dX7_runScript_64 : dec mX7_runScript 64 = .ok (.isub, 1) := by decide +kernel
theorem dX7_runScript_65 : dec mX7_runScript 65 = .ok (.invokestatic 329, 3) := by decide +kernel
theorem dX7_runScript_68 : dec mX7_runScript 68 = .ok (.lstore 5, 2) := by decide +kernel
theorem dX7_runScript_70 : dec mX7_runScript 70 = .ok (.lload 5, 2) := by decide +kernel
theorem dX7_runScript_72 : dec mX7_runScript 72 = .ok (.lconst 0, 1) := by decide +kernel
theorem dX7_runScript_73 : dec mX7_runScript 73 = .ok (.lcmp, 1) := by decide +kernel
theorem dX7_runScript_74 : dec mX7_runScript 74 = .ok (.ifCond .le 14, 3) := by decide +kernel
theorem dX7_runScript_77 : dec mX7_runScript 77 = .ok (.lload_n 2, 1) := by decide +kernel
theorem dX7_runScript_78 : dec mX7_runScript 78 = .ok (.lload 5, 2) := by decide +kernel
theorem dX7_runScript_80 : dec mX7_runScript 80 = .ok (.ldiv, 1) := by decide +kernel
theorem dX7_runScript_81 : dec mX7_runScript 81 = .ok (.ldc2_w 335, 3) := by decide +kernel
theorem dX7_runScript_84 : dec mX7_runScript 84 = .ok (.lrem, 1) := by decide +kernel
theorem dX7_runScript_85 : dec mX7_runScript 85 = .ok (.goto 4, 3) := by decide +kernel
theorem dX7_runScript_88 : dec mX7_runScript 88 = .ok (.lconst 0, 1) := by decide +kernel
theorem dX7_runScript_89 : dec mX7_runScript 89 = .ok (.lstore 7, 2) := by decide +kernel
theorem dX7_runScript_91 : dec mX7_runScript 91 = .ok (.aload_n 0, 1) := by decide +kernel
theorem dX7_runScript_92 : dec mX7_runScript 92 = .ok (.getfield 16, 3) := by decide +kernel
theorem dX7_runScript_95 : dec mX7_runScript 95 = .ok (.lload 7, 2) := by decide +kernel
theorem dX7_runScript_97 : dec mX7_runScript 97 = .ok (.l2i, 1) := by decide +kernel
theorem dX7_runScript_98 : dec mX7_runScript 98 = .ok (.invokestatic 337, 3) := by decide +kernel
theorem dX7_runScript_101 : dec mX7_runScript 101 = .ok (.ifCond .ne 6, 3) := by decide +kernel
theorem dX7_runScript_104 : dec mX7_runScript 104 = .ok (.iload 4, 2) := by decide +kernel
theorem dX7_runScript_106 : dec mX7_runScript 106 = .ok (.ireturn, 1) := by decide +kernel
theorem dX7_runScript_107 : dec mX7_runScript 107 = .ok (.iinc 4 1, 3) := by decide +kernel
theorem dX7_runScript_110 : dec mX7_runScript 110 = .ok (.goto (-57), 3) := by decide +kernel
theorem dX7_runScript_113 : dec mX7_runScript 113 = .ok (.iconst (-1), 1) := by decide +kernel
theorem dX7_runScript_114 : dec mX7_runScript 114 = .ok (.ireturn, 1) := by decide +kernel
theorem dX7_simulate_0 : dec mX7_simulate 0 = .ok (.iload_n 3, 1) := by decide +kernel
theorem dX7_simulate_1 : dec mX7_simulate 1 = .ok (.iconst 1, 1) := by decide +kernel
theorem dX7_simulate_2 : dec mX7_simulate 2 = .ok (.if_icmp .lt 9, 3) := by decide +kernel
theorem dX7_simulate_5 : dec mX7_simulate 5 = .ok (.iload_n 3, 1) := by decide +kernel
theorem dX7_simulate_6 : dec mX7_simulate 6 = .ok (.bipush 30, 2) := by decide +kernel
theorem dX7_simulate_8 : dec mX7_simulate 8 = .ok (.if_icmp .le 14, 3) := by decide +kernel
theorem dX7_simulate_11 : dec mX7_simulate 11 = .ok (.new 44, 3) := by decide +kernel
theorem dX7_simulate_14 : dec mX7_simulate 14 = .ok (.dup, 1) := by decide +kernel
theorem dX7_simulate_15 : dec mX7_simulate 15 = .ok (.ldc_w 341, 3) := by decide +kernel
theorem dX7_simulate_18 : dec mX7_simulate 18 = .ok (.invokespecial 48, 3) := by decide +kernel
theorem dX7_simulate_21 : dec mX7_simulate 21 = .ok (.athrow, 1) := by decide +kernel
theorem dX7_simulate_22 : dec mX7_simulate 22 = .ok (.aload_n 0, 1) := by decide +kernel
theorem dX7_simulate_23 : dec mX7_simulate 23 = .ok (.getfield 16, 3) := by decide +kernel
theorem dX7_simulate_26 : dec mX7_simulate 26 = .ok (.aload_n 0, 1) := by decide +kernel
theorem dX7_simulate_27 : dec mX7_simulate 27 = .ok (.getfield 10, 3) := by decide +kernel
theorem dX7_simulate_30 : dec mX7_simulate 30 = .ok (.getfield 101, 3) := by decide +kernel
theorem dX7_simulate_33 : dec mX7_simulate 33 = .ok (.invokevirtual 284, 3) := by decide +kernel
theorem dX7_simulate_36 : dec mX7_simulate 36 = .ok (.lload_n 1, 1) := by decide +kernel
theorem dX7_simulate_37 : dec mX7_simulate 37 = .ok (.lstore 4, 2) := by decide +kernel
theorem dX7_simulate_39 : dec mX7_simulate 39 = .ok (.iconst 0, 1) := by decide +kernel
theorem dX7_simulate_40 : dec mX7_simulate 40 = .ok (.istore 6, 2) := by decide +kernel
theorem dX7_simulate_42 : dec mX7_simulate 42 = .ok (.iload 6, 2) := by decide +kernel
theorem dX7_simulate_44 : dec mX7_simulate 44 = .ok (.iload_n 3, 1) := by decide +kernel
theorem dX7_simulate_45 : dec mX7_simulate 45 = .ok (.if_icmp .ge 34, 3) := by decide +kernel
theorem dX7_simulate_48 : dec mX7_simulate 48 = .ok (.lload 4, 2) := by decide +kernel
theorem dX7_simulate_50 : dec mX7_simulate 50 = .ok (.ldc2_w 343, 3) := by decide +kernel
theorem dX7_simulate_53 : dec mX7_simulate 53 = .ok (.lmul, 1) := by decide +kernel
theorem dX7_simulate_54 : dec mX7_simulate 54 = .ok (.ldc2_w 345, 3) := by decide +kernel
theorem dX7_simulate_57 : dec mX7_simulate 57 = .ok (.ladd, 1) := by decide +kernel
theorem dX7_simulate_58 : dec mX7_simulate 58 = .ok (.lstore 4, 2) := by decide +kernel
theorem dX7_simulate_60 : dec mX7_simulate 60 = .ok (.aload_n 0, 1) := by decide +kernel
theorem dX7_simulate_61 : dec mX7_simulate 61 = .ok (.getfield 16, 3) := by decide +kernel
theorem dX7_simulate_64 : dec mX7_simulate 64 = .ok (.lload 4, 2) := by decide +kernel
theorem dX7_simulate_66 : dec mX7_simulate 66 = .ok (.bipush 33, 2) := by decide +kernel
theorem dX7_simulate_68 : dec mX7_simulate 68 = .ok (.lushr, 1) := by decide +kernel
theorem dX7_simulate_69 : dec mX7_simulate 69 = .ok (.l2i, 1) := by decide +kernel
theorem dX7_simulate_70 : dec mX7_simulate 70 = .ok (.invokestatic 347, 3) := by decide +kernel
theorem dX7_simulate_73 : dec mX7_simulate 73 = .ok (.iinc 6 1, 3) := by decide +kernel
theorem dX7_simulate_76 : dec mX7_simulate 76 = .ok (.goto (-34), 3) := by decide +kernel
theorem dX7_simulate_79 : dec mX7_simulate 79 = .ok (.aload_n 0, 1) := by decide +kernel
theorem dX7_simulate_80 : dec mX7_simulate 80 = .ok (.getfield 16, 3) := by decide +kernel
theorem dX7_simulate_83 : dec mX7_simulate 83 = .ok (.invokevirtual 122, 3) := by decide +kernel
theorem dX7_simulate_86 : dec mX7_simulate 86 = .ok (.ireturn, 1) := by decide +kernel
theorem dX7_save_0 : dec mX7_save 0 = .ok (.iload_n 1, 1) := by decide +kernel
theorem dX7_save_1 : dec mX7_save 1 = .ok (.ifCond .lt 8, 3) := by decide +kernel
theorem dX7_save_4 : dec mX7_save 4 = .ok (.iload_n 1, 1) := by decide +kernel
theorem dX7_save_5 : dec mX7_save 5 = .ok (.iconst 2, 1) := by decide +kernel
theorem dX7_save_6 : dec mX7_save 6 = .ok (.if_icmp .lt 14, 3) := by decide +kernel
theorem dX7_save_9 : dec mX7_save 9 = .ok (.new 151, 3) := by decide +kernel
theorem dX7_save_12 : dec mX7_save 12 = .ok (.dup, 1) := by decide +kernel
theorem dX7_save_13 : dec mX7_save 13 = .ok (.ldc_w 351, 3) := by decide +kernel
theorem dX7_save_16 : dec mX7_save 16 = .ok (.invokespecial 155, 3) := by decide +kernel
theorem dX7_save_19 : dec mX7_save 19 = .ok (.athrow, 1) := by decide +kernel
theorem dX7_save_20 : dec mX7_save 20 = .ok (.aload_n 0, 1) := by decide +kernel
theorem dX7_save_21 : dec mX7_save 21 = .ok (.getfield 29, 3) := by decide +kernel
theorem dX7_save_24 : dec mX7_save 24 = .ok (.iload_n 1, 1) := by decide +kernel
theorem dX7_save_25 : dec mX7_save 25 = .ok (.aload_n 0, 1) := by decide +kernel
theorem dX7_save_26 : dec mX7_save 26 = .ok (.getfield 10, 3) := by decide +kernel
theorem dX7_save_29 : dec mX7_save 29 = .ok (.getfield 101, 3) := by decide +kernel
theorem dX7_save_32 : dec mX7_save 32 = .ok (.invokevirtual 353, 3) := by decide +kernel
theorem dX7_save_35 : dec mX7_save 35 = .ok (.aload_n 0, 1) := by decide +kernel
theorem dX7_save_36 : dec mX7_save 36 = .ok (.getfield 10, 3) := by decide +kernel
theorem dX7_save_39 : dec mX7_save 39 = .ok (.invokevirtual 122, 3) := by decide +kernel
theorem dX7_save_42 : dec mX7_save 42 = .ok (.ireturn, 1) := by decide +kernel
theorem dX7_restore_0 : dec mX7_restore 0 = .ok (.iload_n 1, 1) := by decide +kernel
theorem dX7_restore_1 : dec mX7_restore 1 = .ok (.ifCond .lt 8, 3) := by decide +kernel
theorem dX7_restore_4 : dec mX7_restore 4 = .ok (.iload_n 1, 1) := by decide +kernel
theorem dX7_restore_5 : dec mX7_restore 5 = .ok (.iconst 2, 1) := by decide +kernel
theorem dX7_restore_6 : dec mX7_restore 6 = .ok (.if_icmp .lt 14, 3) := by decide +kernel
theorem dX7_restore_9 : dec mX7_restore 9 = .ok (.new 151, 3) := by decide +kernel
theorem dX7_restore_12 : dec mX7_restore 12 = .ok (.dup, 1) := by decide +kernel
theorem dX7_restore_13 : dec mX7_restore 13 = .ok (.ldc_w 351, 3) := by decide +kernel
theorem dX7_restore_16 : dec mX7_restore 16 = .ok (.invokespecial 155, 3) := by decide +kernel
theorem dX7_restore_19 : dec mX7_restore 19 = .ok (.athrow, 1) := by decide +kernel
theorem dX7_restore_20 : dec mX7_restore 20 = .ok (.aload_n 0, 1) := by decide +kernel
theorem dX7_restore_21 : dec mX7_restore 21 = .ok (.getfield 29, 3) := by decide +kernel
theorem dX7_restore_24 : dec mX7_restore 24 = .ok (.iload_n 1, 1) := by decide +kernel
theorem dX7_restore_25 : dec mX7_restore 25 = .ok (.invokevirtual 357, 3) := by decide +kernel
theorem dX7_restore_28 : dec mX7_restore 28 = .ok (.ifCond .ne 14, 3) := by decide +kernel
theorem dX7_restore_31 : dec mX7_restore 31 = .ok (.new 55, 3) := by decide +kernel
theorem dX7_restore_34 : dec mX7_restore 34 = .ok (.dup, 1) := by decide +kernel
theorem dX7_restore_35 : dec mX7_restore 35 = .ok (.ldc_w 360, 3) := by decide +kernel
theorem dX7_restore_38 : dec mX7_restore 38 = .ok (.invokespecial 59, 3) := by decide +kernel
theorem dX7_restore_41 : dec mX7_restore 41 = .ok (.athrow, 1) := by decide +kernel
theorem dX7_restore_42 : dec mX7_restore 42 = .ok (.aload_n 0, 1) := by decide +kernel
theorem dX7_restore_43 : dec mX7_restore 43 = .ok (.getfield 22, 3) := by decide +kernel
theorem dX7_restore_46 : dec mX7_restore 46 = .ok (.invokevirtual 74, 3) := by decide +kernel
theorem dX7_restore_49 : dec mX7_restore 49 = .ok (.aload_n 0, 1) := by decide +kernel
theorem dX7_restore_50 : dec mX7_restore 50 = .ok (.getfield 10, 3) := by decide +kernel
theorem dX7_restore_53 : dec mX7_restore 53 = .ok (.aload_n 0, 1) := by decide +kernel
theorem dX7_restore_54 : dec mX7_restore 54 = .ok (.getfield 29, 3) := by decide +kernel
theorem dX7_restore_57 : dec mX7_restore 57 = .ok (.iload_n 1, 1) := by decide +kernel
theorem dX7_restore_58 : dec mX7_restore 58 = .ok (.invokevirtual 362, 3) := by decide +kernel
theorem dX7_restore_61 : dec mX7_restore 61 = .ok (.invokevirtual 284, 3) := by decide +kernel
theorem dX7_restore_64 : dec mX7_restore 64 = .ok (.aload_n 0, 1) := by decide +kernel
theorem dX7_restore_65 : dec mX7_restore 65 = .ok (.getfield 10, 3) := by decide +kernel
theorem dX7_restore_68 : dec mX7_restore 68 = .ok (.invokevirtual 122, 3) := by decide +kernel
theorem dX7_restore_71 : dec mX7_restore 71 = .ok (.ireturn, 1) := by decide +kernel
theorem dX7_isGrey_0 : dec mX7_isGrey 0 = .ok (.iload_n 0, 1) := by decide +kernel
theorem dX7_isGrey_1 : dec mX7_isGrey 1 = .ok (.ifCond .lt 13, 3) := by decide +kernel
theorem dX7_isGrey_4 : dec mX7_isGrey 4 = .ok (.iload_n 0, 1) := by decide +kernel
theorem dX7_isGrey_5 : dec mX7_isGrey 5 = .ok (.bipush 99, 2) := by decide +kernel
theorem dX7_isGrey_7 : dec mX7_isGrey 7 = .ok (.if_icmp .gt 7, 3) := by decide +kernel
theorem dX7_isGrey_10 : dec mX7_isGrey 10 = .ok (.iconst 1, 1) := by decide +kernel
theorem dX7_isGrey_11 : dec mX7_isGrey 11 = .ok (.goto 4, 3) := by decide +kernel
theorem dX7_isGrey_14 : dec mX7_isGrey 14 = .ok (.iconst 0, 1) := by decide +kernel
theorem dX7_isGrey_15 : dec mX7_isGrey 15 = .ok (.ireturn, 1) := by decide +kernel
theorem dX7_isCountOfChanges_0 : dec mX7_isCountOfChanges 0 = .ok (.iload_n 0, 1) := by decide +kernel
theorem dX7_isCountOfChanges_1 : dec mX7_isCountOfChanges 1 = .ok (.iconst 1, 1) := by decide +kernel
theorem dX7_isCountOfChanges_2 : dec mX7_isCountOfChanges 2 = .ok (.if_icmp .lt 13, 3) := by decide +kernel
theorem dX7_isCountOfChanges_5 : dec mX7_isCountOfChanges 5 = .ok (.iload_n 0, 1) := by decide +kernel
theorem dX7_isCountOfChanges_6 : dec mX7_isCountOfChanges 6 = .ok (.bipush 20, 2) := by decide +kernel
theorem dX7_isCountOfChanges_8 : dec mX7_isCountOfChanges 8 = .ok (.if_icmp .gt 7, 3) := by decide +kernel
theorem dX7_isCountOfChanges_11 : dec mX7_isCountOfChanges 11 = .ok (.iconst 1, 1) := by decide +kernel
theorem dX7_isCountOfChanges_12 : dec mX7_isCountOfChanges 12 = .ok (.goto 4, 3) := by decide +kernel
theorem dX7_isCountOfChanges_15 : dec mX7_isCountOfChanges 15 = .ok (.iconst 0, 1) := by decide +kernel
theorem dX7_isCountOfChanges_16 : dec mX7_isCountOfChanges 16 = .ok (.ireturn, 1) := by decide +kernel
theorem dX7_behindGroups_0 : dec mX7_behindGroups 0 = .ok (.lconst 1, 1) := by decide +kernel
theorem dX7_behindGroups_1 : dec mX7_behindGroups 1 = .ok (.lstore_n 1, 1) := by decide +kernel
theorem dX7_behindGroups_2 : dec mX7_behindGroups 2 = .ok (.iconst 0, 1) := by decide +kernel
theorem dX7_behindGroups_3 : dec mX7_behindGroups 3 = .ok (.istore_n 3, 1) := by decide +kernel
theorem dX7_behindGroups_4 : dec mX7_behindGroups 4 = .ok (.iload_n 3, 1) := by decide +kernel
theorem dX7_behindGroups_5 : dec mX7_behindGroups 5 = .ok (.iload_n 0, 1) := by decide +kernel
theorem dX7_behindGroups_6 : dec mX7_behindGroups 6 = .ok (.if_icmp .ge 15, 3) := by decide +kernel
theorem dX7_behindGroups_9 : dec mX7_behindGroups 9 = .ok (.lload_n 1, 1) := by decide +kernel
theorem dX7_behindGroups_10 : dec mX7_behindGroups 10 = .ok (.ldc2_w 335, 3) := by decide +kernel
theorem dX7_behindGroups_13 : dec mX7_behindGroups 13 = .ok (.lmul, 1) := by decide +kernel
theorem dX7_behindGroups_14 : dec mX7_behindGroups 14 = .ok (.lstore_n 1, 1) := by decide +kernel
theorem dX7_behindGroups_15 : dec mX7_behindGroups 15 = .ok (.iinc 3 1, 3) := by decide +kernel
theorem dX7_behindGroups_18 : dec mX7_behindGroups 18 = .ok (.goto (-14), 3) := by decide +kernel
theorem dX7_behindGroups_21 : dec mX7_behindGroups 21 = .ok (.lload_n 1, 1) := by decide +kernel
theorem dX7_behindGroups_22 : dec mX7_behindGroups 22 = .ok (.lreturn, 1) := by decide +kernel
theorem dX7_at_0 : dec mX7_at 0 = .ok (.iload_n 1, 1) := by decide +kernel
theorem dX7_at_1 : dec mX7_at 1 = .ok (.ifCond .lt 15, 3) := by decide +kernel
theorem dX7_at_4 : dec mX7_at 4 = .ok (.iload_n 1, 1) := by decide +kernel
theorem dX7_at_5 : dec mX7_at 5 = .ok (.aload_n 0, 1) := by decide +kernel
theorem dX7_at_6 : dec mX7_at 6 = .ok (.arraylength, 1) := by decide +kernel
theorem dX7_at_7 : dec mX7_at 7 = .ok (.if_icmp .ge 9, 3) := by decide +kernel
theorem dX7_at_10 : dec mX7_at 10 = .ok (.aload_n 0, 1) := by decide +kernel
theorem dX7_at_11 : dec mX7_at 11 = .ok (.iload_n 1, 1) := by decide +kernel
theorem dX7_at_12 : dec mX7_at 12 = .ok (.iaload, 1) := by decide +kernel
theorem dX7_at_13 : dec mX7_at 13 = .ok (.goto 4, 3) := by decide +kernel
theorem dX7_at_16 : dec mX7_at 16 = .ok (.iconst 0, 1) := by decide +kernel
theorem dX7_at_17 : dec mX7_at 17 = .ok (.ireturn, 1) := by decide +kernel
theorem dX7_put_0 : dec mX7_put 0 = .ok (.iload_n 1, 1) := by decide +kernel
theorem dX7_put_1 : dec mX7_put 1 = .ok (.ifCond .lt 13, 3) := by decide +kernel
theorem dX7_put_4 : dec mX7_put 4 = .ok (.iload_n 1, 1) := by decide +kernel
theorem dX7_put_5 : dec mX7_put 5 = .ok (.aload_n 0, 1) := by decide +kernel
theorem dX7_put_6 : dec mX7_put 6 = .ok (.arraylength, 1) := by decide +kernel
theorem dX7_put_7 : dec mX7_put 7 = .ok (.if_icmp .ge 7, 3) := by decide +kernel
theorem dX7_put_10 : dec mX7_put 10 = .ok (.aload_n 0, 1) := by decide +kernel
theorem dX7_put_11 : dec mX7_put 11 = .ok (.iload_n 1, 1) := by decide +kernel
theorem dX7_put_12 : dec mX7_put 12 = .ok (.iload_n 2, 1) := by decide +kernel
theorem dX7_put_13 : dec mX7_put 13 = .ok (.iastore, 1) := by decide +kernel
theorem dX7_put_14 : dec mX7_put 14 = .ok (.return_, 1) := by decide +kernel
theorem dX7_exchange_0 : dec mX7_exchange 0 = .ok (.iload_n 1, 1) := by decide +kernel
theorem dX7_exchange_1 : dec mX7_exchange 1 = .ok (.ifCond .lt 33, 3) := by decide +kernel
theorem dX7_exchange_4 : dec mX7_exchange 4 = .ok (.iload_n 1, 1) := by decide +kernel
theorem dX7_exchange_5 : dec mX7_exchange 5 = .ok (.aload_n 0, 1) := by decide +kernel
theorem dX7_exchange_6 : dec mX7_exchange 6 = .ok (.arraylength, 1) := by decide +kernel
theorem dX7_exchange_7 : dec mX7_exchange 7 = .ok (.if_icmp .ge 27, 3) := by decide +kernel
theorem dX7_exchange_10 : dec mX7_exchange 10 = .ok (.iload_n 2, 1) := by decide +kernel
theorem dX7_exchange_11 : dec mX7_exchange 11 = .ok (.ifCond .lt 23, 3) := by decide +kernel
theorem dX7_exchange_14 : dec mX7_exchange 14 = .ok (.iload_n 2, 1) := by decide +kernel
theorem dX7_exchange_15 : dec mX7_exchange 15 = .ok (.aload_n 0, 1) := by decide +kernel
theorem dX7_exchange_16 : dec mX7_exchange 16 = .ok (.arraylength, 1) := by decide +kernel
theorem dX7_exchange_17 : dec mX7_exchange 17 = .ok (.if_icmp .ge 17, 3) := by decide +kernel
theorem dX7_exchange_20 : dec mX7_exchange 20 = .ok (.aload_n 0, 1) := by decide +kernel
theorem dX7_exchange_21 : dec mX7_exchange 21 = .ok (.iload_n 1, 1) := by decide +kernel
theorem dX7_exchange_22 : dec mX7_exchange 22 = .ok (.iaload, 1) := by decide +kernel
theorem dX7_exchange_23 : dec mX7_exchange 23 = .ok (.istore_n 3, 1) := by decide +kernel
theorem dX7_exchange_24 : dec mX7_exchange 24 = .ok (.aload_n 0, 1) := by decide +kernel
theorem dX7_exchange_25 : dec mX7_exchange 25 = .ok (.iload_n 1, 1) := by decide +kernel
theorem dX7_exchange_26 : dec mX7_exchange 26 = .ok (.aload_n 0, 1) := by decide +kernel
theorem dX7_exchange_27 : dec mX7_exchange 27 = .ok (.iload_n 2, 1) := by decide +kernel
theorem dX7_exchange_28 : dec mX7_exchange 28 = .ok (.iaload, 1) := by decide +kernel
theorem dX7_exchange_29 : dec mX7_exchange 29 = .ok (.iastore, 1) := by decide +kernel
theorem dX7_exchange_30 : dec mX7_exchange 30 = .ok (.aload_n 0, 1) := by decide +kernel
theorem dX7_exchange_31 : dec mX7_exchange 31 = .ok (.iload_n 2, 1) := by decide +kernel
theorem dX7_exchange_32 : dec mX7_exchange 32 = .ok (.iload_n 3, 1) := by decide +kernel
theorem dX7_exchange_33 : dec mX7_exchange 33 = .ok (.iastore, 1) := by decide +kernel
theorem dX7_exchange_34 : dec mX7_exchange 34 = .ok (.return_, 1) := by decide +kernel
end
section
theorem dX8_init_0 : dec mX8_init 0 = .ok (.aload_n 0, 1) := by decide +kernel
theorem dX8_init_1 : dec mX8_init 1 = .ok (.invokespecial 1, 3) := by decide +kernel
theorem dX8_init_4 : dec mX8_init 4 = .ok (.aload_n 0, 1) := by decide +kernel
theorem dX8_init_5 : dec mX8_init 5 = .ok (.bipush 120, 2) := by decide +kernel
theorem dX8_init_7 : dec mX8_init 7 = .ok (.newarray .int, 2) := by decide +kernel
theorem dX8_init_9 : dec mX8_init 9 = .ok (.putfield 7, 3) := by decide +kernel
theorem dX8_init_12 : dec mX8_init 12 = .ok (.aload_n 0, 1) := by decide +kernel
theorem dX8_init_13 : dec mX8_init 13 = .ok (.sipush 563, 3) := by decide +kernel
theorem dX8_init_16 : dec mX8_init 16 = .ok (.newarray .int, 2) := by decide +kernel
theorem dX8_init_18 : dec mX8_init 18 = .ok (.putfield 13, 3) := by decide +kernel
theorem dX8_init_21 : dec mX8_init 21 = .ok (.aload_n 0, 1) := by decide +kernel
theorem dX8_init_22 : dec mX8_init 22 = .ok (.sipush 563, 3) := by decide +kernel
theorem dX8_init_25 : dec mX8_init 25 = .ok (.newarray .int, 2) := by decide +kernel
theorem dX8_init_27 : dec mX8_init 27 = .ok (.putfield 16, 3) := by decide +kernel
theorem dX8_init_30 : dec mX8_init 30 = .ok (.aload_n 0, 1) := by decide +kernel
theorem dX8_init_31 : dec mX8_init 31 = .ok (.sipush 7882, 3) := by decide +kernel
theorem dX8_init_34 : dec mX8_init 34 = .ok (.newarray .int, 2) := by decide +kernel
theorem dX8_init_36 : dec mX8_init 36 = .ok (.putfield 19, 3) := by decide +kernel
theorem dX8_init_39 : dec mX8_init 39 = .ok (.aload_n 0, 1) := by decide +kernel
theorem dX8_init_40 : dec mX8_init 40 = .ok (.sipush 1126, 3) := by decide +kernel
theorem dX8_init_43 : dec mX8_init 43 = .ok (.newarray .int, 2) := by decide +kernel
theorem dX8_init_45 : dec mX8_init 45 = .ok (.putfield 22, 3) := by decide +kernel
theorem dX8_init_48 : dec mX8_init 48 = .ok (.aload_n 0, 1) := by decide +kernel
theorem dX8_init_49 : dec mX8_init 49 = .ok (.iconst 2, 1) := by decide +kernel
theorem dX8_init_50 : dec mX8_init 50 = .ok (.newarray .boolean, 2) := by decide +kernel
theorem dX8_init_52 : dec mX8_init 52 = .ok (.putfield 25, 3) := by decide +kernel
theorem dX8_init_55 : dec mX8_init 55 = .ok (.aload_n 0, 1) := by decide +kernel
theorem dX8_init_56 : dec mX8_init 56 = .ok (.bipush 56, 2) := by decide +kernel
theorem dX8_init_58 : dec mX8_init 58 = .ok (.newarray .boolean, 2) := by decide +kernel
theorem dX8_init_60 : dec mX8_init 60 = .ok (.putfield 29, 3) := by decide +kernel
theorem dX8_init_63 : dec mX8_init 63 = .ok (.aload_n 0, 1) := by decide +kernel
theorem dX8_init_64 : dec mX8_init 64 = .ok (.getfield 13, 3) := by decide +kernel
theorem dX8_init_67 : dec mX8_init 67 = .ok (.iconst 3, 1) := by decide +kernel
theorem dX8_init_68 : dec mX8_init 68 = .ok (.iconst 1, 1) := by decide +kernel
theorem dX8_init_69 : dec mX8_init 69 = .ok (.invokestatic 32, 3) := by decide +kernel
theorem dX8_init_72 : dec mX8_init 72 = .ok (.return_, 1) := by decide +kernel
theorem dX8_thrown_0 : dec mX8_thrown 0 = .ok (.aload_n 0, 1) := by decide +kernel
theorem dX8_thrown_1 : dec mX8_thrown 1 = .ok (.getfield 36, 3) := by decide +kernel
theorem dX8_thrown_4 : dec mX8_thrown 4 = .ok (.ireturn, 1) := by decide +kernel
theorem dX8_refused_0 : dec mX8_refused 0 = .ok (.aload_n 0, 1) := by decide +kernel
theorem dX8_refused_1 : dec mX8_refused 1 = .ok (.iload_n 1, 1) := by decide +kernel
theorem dX8_refused_2 : dec mX8_refused 2 = .ok (.putfield 36, 3) := by decide +kernel
theorem dX8_refused_5 : dec mX8_refused 5 = .ok (.iload_n 1, 1) := by decide +kernel
theorem dX8_refused_6 : dec mX8_refused 6 = .ok (.ifCond .le 7, 3) := by decide +kernel
theorem dX8_refused_9 : dec mX8_refused 9 = .ok (.iconst 1, 1) := by decide +kernel
theorem dX8_refused_10 : dec mX8_refused 10 = .ok (.goto 4, 3) := by decide +kernel
theorem dX8_refused_13 : dec mX8_refused 13 = .ok (.iconst 0, 1) := by decide +kernel
theorem dX8_refused_14 : dec mX8_refused 14 = .ok (.ireturn, 1) := by decide +kernel
theorem dX8_in_0 : dec mX8_in 0 = .ok (.lload_n 0, 1) := by decide +kernel
theorem dX8_in_1 : dec mX8_in 1 = .ok (.lload_n 2, 1) := by decide +kernel
theorem dX8_in_2 : dec mX8_in 2 = .ok (.lcmp, 1) := by decide +kernel
theorem dX8_in_3 : dec mX8_in 3 = .ok (.ifCond .lt 14, 3) := by decide +kernel
theorem dX8_in_6 : dec mX8_in 6 = .ok (.lload_n 0, 1) := by decide +kernel
theorem dX8_in_7 : dec mX8_in 7 = .ok (.lload 4, 2) := by decide +kernel
theorem dX8_in_9 : dec mX8_in 9 = .ok (.lcmp, 1) := by decide +kernel
theorem dX8_in_10 : dec mX8_in 10 = .ok (.ifCond .gt 7, 3) := by decide +kernel
theorem dX8_in_13 : dec mX8_in 13 = .ok (.iconst 1, 1) := by decide +kernel
theorem dX8_in_14 : dec mX8_in 14 = .ok (.goto 4, 3) := by decide +kernel
theorem dX8_in_17 : dec mX8_in 17 = .ok (.iconst 0, 1) := by decide +kernel
theorem dX8_in_18 : dec mX8_in 18 = .ok (.ireturn, 1) := by decide +kernel
theorem dX8_copyState_0 : dec mX8_copyState 0 = .ok (.iconst 0, 1) := by decide +kernel
theorem dX8_copyState_1 : dec mX8_copyState 1 = .ok (.istore 4, 2) := by decide +kernel
theorem dX8_copyState_3 : dec mX8_copyState 3 = .ok (.iload 4, 2) := by decide +kernel
theorem dX8_copyState_5 : dec mX8_copyState 5 = .ok (.sipush 563, 3) := by decide +kernel
theorem dX8_copyState_8 : dec mX8_copyState 8 = .ok (.if_icmp .ge 21, 3) := by decide +kernel
theorem dX8_copyState_11 : dec mX8_copyState 11 = .ok (.aload_n 2, 1) := by decide +kernel
theorem dX8_copyState_12 : dec mX8_copyState 12 = .ok (.iload_n 3, 1) := by decide +kernel
theorem dX8_copyState_13 : dec mX8_copyState 13 = .ok (.iload 4, 2) := by decide +kernel
theorem dX8_copyState_15 : dec mX8_copyState 15 = .ok (.iadd, 1) := by decide +kernel
theorem dX8_copyState_16 : dec mX8_copyState 16 = .ok (.aload_n 0, 1) := by decide +kernel
theorem dX8_copyState_17 : dec mX8_copyState 17 = .ok (.iload_n 1, 1) := by decide +kernel
theorem dX8_copyState_18 : dec mX8_copyState 18 = .ok (.iload 4, 2) := by decide +kernel
theorem dX8_copyState_20 : dec mX8_copyState 20 = .ok (.iadd, 1) := by decide +kernel
theorem dX8_copyState_21 : dec mX8_copyState 21 = .ok (.iaload, 1) := by decide +kernel
theorem dX8_copyState_22 : dec mX8_copyState 22 = .ok (.iastore, 1) := by decide +kernel
theorem dX8_copyState_23 : dec mX8_copyState 23 = .ok (.iinc 4 1, 3) := by decide +kernel
theorem dX8_copyState_26 : dec mX8_copyState 26 = .ok (.goto (-23), 3) := by decide +kernel
theorem dX8_copyState_29 : dec mX8_copyState 29 = .ok (.return_, 1) := by decide +kernel
theorem dX8_wide_0 : dec mX8_wide 0 = .ok (.aload_n 0, 1) := by decide +kernel
theorem dX8_wide_1 : dec mX8_wide 1 = .ok (.iconst 0, 1) := by decide +kernel
theorem dX8_wide_2 : dec mX8_wide 2 = .ok (.iaload, 1) := by decide +kernel
theorem dX8_wide_3 : dec mX8_wide 3 = .ok (.iconst 2, 1) := by decide +kernel
theorem dX8_wide_4 : dec mX8_wide 4 = .ok (.iadd, 1) := by decide +kernel
theorem dX8_wide_5 : dec mX8_wide 5 = .ok (.ireturn, 1) := by decide +kernel
theorem dX8_high_0 : dec mX8_high 0 = .ok (.aload_n 0, 1) := by decide +kernel
theorem dX8_high_1 : dec mX8_high 1 = .ok (.iconst 0, 1) := by decide +kernel
theorem dX8_high_2 : dec mX8_high 2 = .ok (.iaload, 1) := by decide +kernel
theorem dX8_high_3 : dec mX8_high 3 = .ok (.iconst 1, 1) := by decide +kernel
theorem dX8_high_4 : dec mX8_high 4 = .ok (.iadd, 1) := by decide +kernel
theorem dX8_high_5 : dec mX8_high 5 = .ok (.aload_n 0, 1) := by decide +kernel
theorem dX8_high_6 : dec mX8_high 6 = .ok (.iconst 1, 1) := by decide +kernel
theorem dX8_high_7 : dec mX8_high 7 = .ok (.iaload, 1) := by decide +kernel
theorem dX8_high_8 : dec mX8_high 8 = .ok (.imul, 1) := by decide +kernel
theorem dX8_high_9 : dec mX8_high 9 = .ok (.ireturn, 1) := by decide +kernel
theorem dX8_squares_0 : dec mX8_squares 0 = .ok (.aload_n 0, 1) := by decide +kernel
theorem dX8_squares_1 : dec mX8_squares 1 = .ok (.invokestatic 40, 3) := by decide +kernel
theorem dX8_squares_4 : dec mX8_squares 4 = .ok (.aload_n 0, 1) := by decide +kernel
theorem dX8_squares_5 : dec mX8_squares 5 = .ok (.invokestatic 44, 3) := by decide +kernel
theorem dX8_squares_8 : dec mX8_squares 8 = .ok (.imul, 1) := by decide +kernel
theorem dX8_squares_9 : dec mX8_squares 9 = .ok (.ireturn, 1) := by decide +kernel
theorem dX8_tiles_0 : dec mX8_tiles 0 = .ok (.aload_n 0, 1) := by decide +kernel
theorem dX8_tiles_1 : dec mX8_tiles 1 = .ok (.invokestatic 47, 3) := by decide +kernel
theorem dX8_tiles_4 : dec mX8_tiles 4 = .ok (.iconst 2, 1) := by decide +kernel
theorem dX8_tiles_5 : dec mX8_tiles 5 = .ok (.idiv, 1) := by decide +kernel
theorem dX8_tiles_6 : dec mX8_tiles 6 = .ok (.ireturn, 1) := by decide +kernel
theorem dX8_isSquare_0 : dec mX8_isSquare 0 = .ok (.iload_n 1, 1) := by decide +kernel
theorem dX8_isSquare_1 : dec mX8_isSquare 1 = .ok (.i2l, 1) := by decide +kernel
theorem dX8_isSquare_2 : dec mX8_isSquare 2 = .ok (.lconst 0, 1) := by decide +kernel
theorem dX8_isSquare_3 : dec mX8_isSquare 3 = .ok (.aload_n 0, 1) := by decide +kernel
theorem dX8_isSquare_4 : dec mX8_isSquare 4 = .ok (.invokestatic 40, 3) := by decide +kernel
theorem dX8_isSquare_7 : dec mX8_isSquare 7 = .ok (.iconst 1, 1) := by decide +kernel
theorem dX8_isSquare_8 : dec mX8_isSquare 8 = .ok (.isub, 1) := by decide +kernel
theorem dX8_isSquare_9 : dec mX8_isSquare 9 = .ok (.i2l, 1) := by decide +kernel
theorem dX8_isSquare_10 : dec mX8_isSquare 10 = .ok (.invokestatic 50, 3) := by decide +kernel
theorem dX8_isSquare_13 : dec mX8_isSquare 13 = .ok (.ifCond .eq 23, 3) := by decide +kernel
theorem dX8_isSquare_16 : dec mX8_isSquare 16 = .ok (.iload_n 2, 1) := by decide +kernel
theorem dX8_isSquare_17 : dec mX8_isSquare 17 = .ok (.i2l, 1) := by decide +kernel
theorem dX8_isSquare_18 : dec mX8_isSquare 18 = .ok (.lconst 0, 1) := by decide +kernel
theorem dX8_isSquare_19 : dec mX8_isSquare 19 = .ok (.aload_n 0, 1) := by decide +kernel
theorem dX8_isSquare_20 : dec mX8_isSquare 20 = .ok (.invokestatic 44, 3) := by decide +kernel
theorem dX8_isSquare_23 : dec mX8_isSquare 23 = .ok (.iconst 1, 1) := by decide +kernel
theorem dX8_isSquare_24 : dec mX8_isSquare 24 = .ok (.isub, 1) := by decide +kernel
theorem dX8_isSquare_25 : dec mX8_isSquare 25 = .ok (.i2l, 1) := by decide +kernel
theorem dX8_isSquare_26 : dec mX8_isSquare 26 = .ok (.invokestatic 50, 3) := by decide +kernel
theorem dX8_isSquare_29 : dec mX8_isSquare 29 = .ok (.ifCond .eq 7, 3) := by decide +kernel
theorem dX8_isSquare_32 : dec mX8_isSquare 32 = .ok (.iconst 1, 1) := by decide +kernel
theorem dX8_isSquare_33 : dec mX8_isSquare 33 = .ok (.goto 4, 3) := by decide +kernel
theorem dX8_isSquare_36 : dec mX8_isSquare 36 = .ok (.iconst 0, 1) := by decide +kernel
theorem dX8_isSquare_37 : dec mX8_isSquare 37 = .ok (.ireturn, 1) := by decide +kernel
theorem dX8_isPlace_0 : dec mX8_isPlace 0 = .ok (.iload_n 1, 1) := by decide +kernel
theorem dX8_isPlace_1 : dec mX8_isPlace 1 = .ok (.i2l, 1) := by decide +kernel
theorem dX8_isPlace_2 : dec mX8_isPlace 2 = .ok (.lconst 0, 1) := by decide +kernel
theorem dX8_isPlace_3 : dec mX8_isPlace 3 = .ok (.aload_n 0, 1) := by decide +kernel
theorem dX8_isPlace_4 : dec mX8_isPlace 4 = .ok (.invokestatic 54, 3) := by decide +kernel
theorem dX8_isPlace_7 : dec mX8_isPlace 7 = .ok (.iconst 1, 1) := by decide +kernel
theorem dX8_isPlace_8 : dec mX8_isPlace 8 = .ok (.isub, 1) := by decide +kernel
theorem dX8_isPlace_9 : dec mX8_isPlace 9 = .ok (.i2l, 1) := by decide +kernel
theorem dX8_isPlace_10 : dec mX8_isPlace 10 = .ok (.invokestatic 50, 3) := by decide +kernel
theorem dX8_isPlace_13 : dec mX8_isPlace 13 = .ok (.ireturn, 1) := by decide +kernel
theorem dX8_start_0 : dec mX8_start 0 = .ok (.iconst 0, 1) := by decide +kernel
theorem dX8_start_1 : dec mX8_start 1 = .ok (.istore_n 3, 1) := by decide +kernel
theorem dX8_start_2 : dec mX8_start 2 = .ok (.iload_n 3, 1) := by decide +kernel
theorem dX8_start_3 : dec mX8_start 3 = .ok (.sipush 563, 3) := by decide +kernel
theorem dX8_start_6 : dec mX8_start 6 = .ok (.if_icmp .ge 13, 3) := by decide +kernel
theorem dX8_start_9 : dec mX8_start 9 = .ok (.aload_n 0, 1) := by decide +kernel
theorem dX8_start_10 : dec mX8_start 10 = .ok (.iload_n 3, 1) := by decide +kernel
theorem dX8_start_11 : dec mX8_start 11 = .ok (.iconst 0, 1) := by decide +kernel
theorem dX8_start_12 : dec mX8_start 12 = .ok (.iastore, 1) := by decide +kernel
theorem dX8_start_13 : dec mX8_start 13 = .ok (.iinc 3 1, 3) := by decide +kernel
theorem dX8_start_16 : dec mX8_start 16 = .ok (.goto (-14), 3) := by decide +kernel
theorem dX8_start_19 : dec mX8_start 19 = .ok (.aload_n 0, 1) := by decide +kernel
theorem dX8_start_20 : dec mX8_start 20 = .ok (.iconst 0, 1) := by decide +kernel
theorem dX8_start_21 : dec mX8_start 21 = .ok (.iload_n 1, 1) := by decide +kernel
theorem dX8_start_22 : dec mX8_start 22 = .ok (.iastore, 1) := by decide +kernel
theorem dX8_start_23 : dec mX8_start 23 = .ok (.aload_n 0, 1) := by decide +kernel
theorem dX8_start_24 : dec mX8_start 24 = .ok (.iconst 1, 1) := by decide +kernel
theorem dX8_start_25 : dec mX8_start 25 = .ok (.iload_n 2, 1) := by decide +kernel
theorem dX8_start_26 : dec mX8_start 26 = .ok (.iastore, 1) := by decide +kernel
theorem dX8_start_27 : dec mX8_start 27 = .ok (.iload_n 1, 1) := by decide +kernel
theorem dX8_start_28 : dec mX8_start 28 = .ok (.iconst 2, 1) := by decide +kernel
theorem dX8_start_29 : dec mX8_start 29 = .ok (.iadd, 1) := by decide +kernel
theorem dX8_start_30 : dec mX8_start 30 = .ok (.istore_n 3, 1) := by decide +kernel
theorem dX8_start_31 : dec mX8_start 31 = .ok (.iconst 0, 1) := by decide +kernel
theorem dX8_start_32 : dec mX8_start 32 = .ok (.istore 4, 2) := by decide +kernel
theorem dX8_start_34 : dec mX8_start 34 = .ok (.iconst 0, 1) := by decide +kernel
theorem dX8_start_35 : dec mX8_start 35 = .ok (.istore 5, 2) := by decide +kernel
theorem dX8_start_37 : dec mX8_start 37 = .ok (.iload 5, 2) := by decide +kernel
theorem dX8_start_39 : dec mX8_start 39 = .ok (.aload_n 0, 1) := by decide +kernel
theorem dX8_start_40 : dec mX8_start 40 = .ok (.invokestatic 47, 3) := by decide +kernel
theorem dX8_start_43 : dec mX8_start 43 = .ok (.if_icmp .ge 82, 3) := by decide +kernel
theorem dX8_start_46 : dec mX8_start 46 = .ok (.iload_n 3, 1) := by decide +kernel
theorem dX8_start_47 : dec mX8_start 47 = .ok (.iconst 2, 1) := by decide +kernel
theorem dX8_start_48 : dec mX8_start 48 = .ok (.irem, 1) := by decide +kernel
theorem dX8_start_49 : dec mX8_start 49 = .ok (.ifCond .ne 18, 3) := by decide +kernel
theorem dX8_start_52 : dec mX8_start 52 = .ok (.iload 5, 2) := by decide +kernel
theorem dX8_start_54 : dec mX8_start 54 = .ok (.iconst 2, 1) := by decide +kernel
theorem dX8_start_55 : dec mX8_start 55 = .ok (.irem, 1) := by decide +kernel
theorem dX8_start_56 : dec mX8_start 56 = .ok (.ifCond .ne 7, 3) := by decide +kernel
theorem dX8_start_59 : dec mX8_start 59 = .ok (.iconst 1, 1) := by decide +kernel
theorem dX8_start_60 : dec mX8_start 60 = .ok (.goto 21, 3) := by decide +kernel
theorem dX8_start_63 : dec mX8_start 63 = .ok (.iconst 0, 1) := by decide +kernel
theorem dX8_start_64 : dec mX8_start 64 = .ok (.goto 17, 3) := by decide +kernel
theorem dX8_start_67 : dec mX8_start 67 = .ok (.iload 5, 2) := by decide +kernel
theorem dX8_start_69 : dec mX8_start 69 = .ok (.iload_n 3, 1) := by decide +kernel
theorem dX8_start_70 : dec mX8_start 70 = .ok (.idiv, 1) := by decide +kernel
theorem dX8_start_71 : dec mX8_start 71 = .ok (.iconst 2, 1) := by decide +kernel
theorem dX8_start_72 : dec mX8_start 72 = .ok (.irem, 1) := by decide +kernel
theorem dX8_start_73 : dec mX8_start 73 = .ok (.ifCond .ne 7, 3) := by decide +kernel
theorem dX8_start_76 : dec mX8_start 76 = .ok (.iconst 1, 1) := by decide +kernel
theorem dX8_start_77 : dec mX8_start 77 = .ok (.goto 4, 3) := by decide +kernel
theorem dX8_start_80 : dec mX8_start 80 = .ok (.iconst 0, 1) := by decide +kernel
theorem dX8_start_81 : dec mX8_start 81 = .ok (.istore 6, 2) := by decide +kernel
theorem dX8_start_83 : dec mX8_start 83 = .ok (.iload 6, 2) := by decide +kernel
theorem dX8_start_85 : dec mX8_start 85 = .ok (.ifCond .eq 34, 3) := by decide +kernel
theorem dX8_start_88 : dec mX8_start 88 = .ok (.aload_n 0, 1) := by decide +kernel
theorem dX8_start_89 : dec mX8_start 89 = .ok (.bipush 115, 2) := by decide +kernel
theorem dX8_start_91 : dec mX8_start 91 = .ok (.iload 5, 2) := by decide +kernel
theorem dX8_start_93 : dec mX8_start 93 = .ok (.iadd, 1) := by decide +kernel
theorem dX8_start_94 : dec mX8_start 94 = .ok (.iload_n 3, 1) := by decide +kernel
theorem dX8_start_95 : dec mX8_start 95 = .ok (.iconst 2, 1) := by decide +kernel
theorem dX8_start_96 : dec mX8_start 96 = .ok (.irem, 1) := by decide +kernel
theorem dX8_start_97 : dec mX8_start 97 = .ok (.ifCond .ne 7, 3) := by decide +kernel
theorem dX8_start_100 : dec mX8_start 100 = .ok (.iconst 1, 1) := by decide +kernel
theorem dX8_start_101 : dec mX8_start 101 = .ok (.goto 4, 3) := by decide +kernel
theorem dX8_start_104 : dec mX8_start 104 = .ok (.iconst 2, 1) := by decide +kernel
theorem dX8_start_105 : dec mX8_start 105 = .ok (.iastore, 1) := by decide +kernel
theorem dX8_start_106 : dec mX8_start 106 = .ok (.aload_n 0, 1) := by decide +kernel
theorem dX8_start_107 : dec mX8_start 107 = .ok (.sipush 227, 3) := by decide +kernel
theorem dX8_start_110 : dec mX8_start 110 = .ok (.iload 5, 2) := by decide +kernel
theorem dX8_start_112 : dec mX8_start 112 = .ok (.iadd, 1) := by decide +kernel
theorem dX8_start_113 : dec mX8_start 113 = .ok (.iload 4, 2) := by decide +kernel
theorem dX8_start_115 : dec mX8_start 115 = .ok (.iastore, 1) := by decide +kernel
theorem dX8_start_116 : dec mX8_start 116 = .ok (.iinc 4 1, 3) := by decide +kernel
theorem dX8_start_119 : dec mX8_start 119 = .ok (.iinc 5 1, 3) := by decide +kernel
theorem dX8_start_122 : dec mX8_start 122 = .ok (.goto (-85), 3) := by decide +kernel
theorem dX8_start_125 : dec mX8_start 125 = .ok (.return_, 1) := by decide +kernel
theorem dX8_lowPips_0 : dec mX8_lowPips 0 = .ok (.aload_n 0, 1) := by decide +kernel
theorem dX8_lowPips_1 : dec mX8_lowPips 1 = .ok (.iconst 0, 1) := by decide +kernel
theorem dX8_lowPips_2 : dec mX8_lowPips 2 = .ok (.iaload, 1) := by decide +kernel
theorem dX8_lowPips_3 : dec mX8_lowPips 3 = .ok (.istore_n 2, 1) := by decide +kernel
theorem dX8_lowPips_4 : dec mX8_lowPips 4 = .ok (.iload_n 1, 1) := by decide +kernel
theorem dX8_lowPips_5 : dec mX8_lowPips 5 = .ok (.iload_n 2, 1) := by decide +kernel
theorem dX8_lowPips_6 : dec mX8_lowPips 6 = .ok (.iconst 1, 1) := by decide +kernel
theorem dX8_lowPips_7 : dec mX8_lowPips 7 = .ok (.iadd, 1) := by decide +kernel
theorem dX8_lowPips_8 : dec mX8_lowPips 8 = .ok (.iload_n 2, 1) := by decide +kernel
theorem dX8_lowPips_9 : dec mX8_lowPips 9 = .ok (.iconst 2, 1) := by decide +kernel
theorem dX8_lowPips_10 : dec mX8_lowPips 10 = .ok (.iadd, 1) := by decide +kernel
theorem dX8_lowPips_11 : dec mX8_lowPips 11 = .ok (.imul, 1) := by decide +kernel
theorem dX8_lowPips_12 : dec mX8_lowPips 12 = .ok (.iconst 2, 1) := by decide +kernel
theorem dX8_lowPips_13 : dec mX8_lowPips 13 = .ok (.idiv, 1) := by decide +kernel
theorem dX8_lowPips_14 : dec mX8_lowPips 14 = .ok (.irem, 1) := by decide +kernel
theorem dX8_lowPips_15 : dec mX8_lowPips 15 = .ok (.istore_n 3, 1) := by decide +kernel
theorem dX8_lowPips_16 : dec mX8_lowPips 16 = .ok (.iconst 0, 1) := by decide +kernel
theorem dX8_lowPips_17 : dec mX8_lowPips 17 = .ok (.istore 4, 2) := by decide +kernel
theorem dX8_lowPips_19 : dec mX8_lowPips 19 = .ok (.iload_n 3, 1) := by decide +kernel
theorem dX8_lowPips_20 : dec mX8_lowPips 20 = .ok (.iload_n 2, 1) := by decide +kernel
theorem dX8_lowPips_21 : dec mX8_lowPips 21 = .ok (.iload 4, 2) := by decide +kernel
theorem dX8_lowPips_23 : dec mX8_lowPips 23 = .ok (.isub, 1) := by decide +kernel
theorem dX8_lowPips_24 : dec mX8_lowPips 24 = .ok (.if_icmp .le 18, 3) := by decide +kernel
theorem dX8_lowPips_27 : dec mX8_lowPips 27 = .ok (.iload_n 3, 1) := by decide +kernel
theorem dX8_lowPips_28 : dec mX8_lowPips 28 = .ok (.iload_n 2, 1) := by decide +kernel
theorem dX8_lowPips_29 : dec mX8_lowPips 29 = .ok (.iload 4, 2) := by decide +kernel
theorem dX8_lowPips_31 : dec mX8_lowPips 31 = .ok (.isub, 1) := by decide +kernel
theorem dX8_lowPips_32 : dec mX8_lowPips 32 = .ok (.iconst 1, 1) := by decide +kernel
theorem dX8_lowPips_33 : dec mX8_lowPips 33 = .ok (.iadd, 1) := by decide +kernel
theorem dX8_lowPips_34 : dec mX8_lowPips 34 = .ok (.isub, 1) := by decide +kernel
theorem dX8_lowPips_35 : dec mX8_lowPips 35 = .ok (.istore_n 3, 1) := by decide +kernel
theorem dX8_lowPips_36 : dec mX8_lowPips 36 = .ok (.iinc 4 1, 3) := by decide +kernel
theorem dX8_lowPips_39 : dec mX8_lowPips 39 = .ok (.goto (-20), 3) := by decide +kernel
theorem dX8_lowPips_42 : dec mX8_lowPips 42 = .ok (.iload 4, 2) := by decide +kernel
theorem dX8_lowPips_44 : dec mX8_lowPips 44 = .ok (.ireturn, 1) := by decide +kernel
theorem dX8_highPips_0 : dec mX8_highPips 0 = .ok (.aload_n 0, 1) := by decide +kernel
theorem dX8_highPips_1 : dec mX8_highPips 1 = .ok (.iconst 0, 1) := by decide +kernel
theorem dX8_highPips_2 : dec mX8_highPips 2 = .ok (.iaload, 1) := by decide +kernel
theorem dX8_highPips_3 : dec mX8_highPips 3 = .ok (.istore_n 2, 1) := by decide +kernel
theorem dX8_highPips_4 : dec mX8_highPips 4 = .ok (.iload_n 1, 1) := by decide +kernel
theorem dX8_highPips_5 : dec mX8_highPips 5 = .ok (.iload_n 2, 1) := by decide +kernel
theorem dX8_highPips_6 : dec mX8_highPips 6 = .ok (.iconst 1, 1) := by decide +kernel
theorem dX8_highPips_7 : dec mX8_highPips 7 = .ok (.iadd, 1) := by decide +kernel
theorem dX8_highPips_8 : dec mX8_highPips 8 = .ok (.iload_n 2, 1) := by decide +kernel
theorem dX8_highPips_9 : dec mX8_highPips 9 = .ok (.iconst 2, 1) := by decide +kernel
theorem dX8_highPips_10 : dec mX8_highPips 10 = .ok (.iadd, 1) := by decide +kernel
theorem dX8_highPips_11 : dec mX8_highPips 11 = .ok (.imul, 1) := by decide +kernel
theorem dX8_highPips_12 : dec mX8_highPips 12 = .ok (.iconst 2, 1) := by decide +kernel
theorem dX8_highPips_13 : dec mX8_highPips 13 = .ok (.idiv, 1) := by decide +kernel
theorem dX8_highPips_14 : dec mX8_highPips 14 = .ok (.irem, 1) := by decide +kernel
theorem dX8_highPips_15 : dec mX8_highPips 15 = .ok (.istore_n 3, 1) := by decide +kernel
theorem dX8_highPips_16 : dec mX8_highPips 16 = .ok (.iconst 0, 1) := by decide +kernel
theorem dX8_highPips_17 : dec mX8_highPips 17 = .ok (.istore 4, 2) := by decide +kernel
theorem dX8_highPips_19 : dec mX8_highPips 19 = .ok (.iload_n 3, 1) := by decide +kernel
theorem dX8_highPips_20 : dec mX8_highPips 20 = .ok (.iload_n 2, 1) := by decide +kernel
theorem dX8_highPips_21 : dec mX8_highPips 21 = .ok (.iload 4, 2) := by decide +kernel
theorem dX8_highPips_23 : dec mX8_highPips 23 = .ok (.isub, 1) := by decide +kernel
theorem dX8_highPips_24 : dec mX8_highPips 24 = .ok (.if_icmp .le 18, 3) := by decide +kernel
theorem dX8_highPips_27 : dec mX8_highPips 27 = .ok (.iload_n 3, 1) := by decide +kernel
theorem dX8_highPips_28 : dec mX8_highPips 28 = .ok (.iload_n 2, 1) := by decide +kernel
theorem dX8_highPips_29 : dec mX8_highPips 29 = .ok (.iload 4, 2) := by decide +kernel
theorem dX8_highPips_31 : dec mX8_highPips 31 = .ok (.isub, 1) := by decide +kernel
theorem dX8_highPips_32 : dec mX8_highPips 32 = .ok (.iconst 1, 1) := by decide +kernel
theorem dX8_highPips_33 : dec mX8_highPips 33 = .ok (.iadd, 1) := by decide +kernel
theorem dX8_highPips_34 : dec mX8_highPips 34 = .ok (.isub, 1) := by decide +kernel
theorem dX8_highPips_35 : dec mX8_highPips 35 = .ok (.istore_n 3, 1) := by decide +kernel
theorem dX8_highPips_36 : dec mX8_highPips 36 = .ok (.iinc 4 1, 3) := by decide +kernel
theorem dX8_highPips_39 : dec mX8_highPips 39 = .ok (.goto (-20), 3) := by decide +kernel
theorem dX8_highPips_42 : dec mX8_highPips 42 = .ok (.iload 4, 2) := by decide +kernel
theorem dX8_highPips_44 : dec mX8_highPips 44 = .ok (.iload_n 3, 1) := by decide +kernel
theorem dX8_highPips_45 : dec mX8_highPips 45 = .ok (.iadd, 1) := by decide +kernel
theorem dX8_highPips_46 : dec mX8_highPips 46 = .ok (.ireturn, 1) := by decide +kernel
theorem dX8_half_0 : dec mX8_half 0 = .ok (.bipush 99, 2) := by decide +kernel
theorem dX8_half_2 : dec mX8_half 2 = .ok (.iload_n 1, 1) := by decide +kernel
theorem dX8_half_3 : dec mX8_half 3 = .ok (.imul, 1) := by decide +kernel
theorem dX8_half_4 : dec mX8_half 4 = .ok (.aload_n 0, 1) := by decide +kernel
theorem dX8_half_5 : dec mX8_half 5 = .ok (.iconst 0, 1) := by decide +kernel
theorem dX8_half_6 : dec mX8_half 6 = .ok (.iaload, 1) := by decide +kernel
theorem dX8_half_7 : dec mX8_half 7 = .ok (.idiv, 1) := by decide +kernel
theorem dX8_half_8 : dec mX8_half 8 = .ok (.ireturn, 1) := by decide +kernel
theorem dX8_errorOf_0 : dec mX8_errorOf 0 = .ok (.aload_n 0, 1) := by decide +kernel
theorem dX8_errorOf_1 : dec mX8_errorOf 1 = .ok (.iconst 3, 1) := by decide +kernel
theorem dX8_errorOf_2 : dec mX8_errorOf 2 = .ok (.iload_n 1, 1) := by decide +kernel
theorem dX8_errorOf_3 : dec mX8_errorOf 3 = .ok (.iadd, 1) := by decide +kernel
theorem dX8_errorOf_4 : dec mX8_errorOf 4 = .ok (.iaload, 1) := by decide +kernel
theorem dX8_errorOf_5 : dec mX8_errorOf 5 = .ok (.aload_n 0, 1) := by decide +kernel
theorem dX8_errorOf_6 : dec mX8_errorOf 6 = .ok (.iload_n 2, 1) := by decide +kernel
theorem dX8_errorOf_7 : dec mX8_errorOf 7 = .ok (.invokestatic 57, 3) := by decide +kernel
theorem dX8_errorOf_10 : dec mX8_errorOf 10 = .ok (.isub, 1) := by decide +kernel
theorem dX8_errorOf_11 : dec mX8_errorOf 11 = .ok (.istore_n 3, 1) := by decide +kernel
theorem dX8_errorOf_12 : dec mX8_errorOf 12 = .ok (.iload_n 3, 1) := by decide +kernel
theorem dX8_errorOf_13 : dec mX8_errorOf 13 = .ok (.iload_n 3, 1) := by decide +kernel
theorem dX8_errorOf_14 : dec mX8_errorOf 14 = .ok (.imul, 1) := by decide +kernel
theorem dX8_errorOf_15 : dec mX8_errorOf 15 = .ok (.ireturn, 1) := by decide +kernel
theorem dX8_errorOn_0 : dec mX8_errorOn 0 = .ok (.iload 4, 2) := by decide +kernel
theorem dX8_errorOn_2 : dec mX8_errorOn 2 = .ok (.iconst 1, 1) := by decide +kernel
theorem dX8_errorOn_3 : dec mX8_errorOn 3 = .ok (.if_icmp .ne 11, 3) := by decide +kernel
theorem dX8_errorOn_6 : dec mX8_errorOn 6 = .ok (.aload_n 0, 1) := by decide +kernel
theorem dX8_errorOn_7 : dec mX8_errorOn 7 = .ok (.iload_n 3, 1) := by decide +kernel
theorem dX8_errorOn_8 : dec mX8_errorOn 8 = .ok (.invokestatic 61, 3) := by decide +kernel
theorem dX8_errorOn_11 : dec mX8_errorOn 11 = .ok (.goto 8, 3) := by decide +kernel
theorem dX8_errorOn_14 : dec mX8_errorOn 14 = .ok (.aload_n 0, 1) := by decide +kernel
theorem dX8_errorOn_15 : dec mX8_errorOn 15 = .ok (.iload_n 3, 1) := by decide +kernel
theorem dX8_errorOn_16 : dec mX8_errorOn 16 = .ok (.invokestatic 64, 3) := by decide +kernel
theorem dX8_errorOn_19 : dec mX8_errorOn 19 = .ok (.istore 5, 2) := by decide +kernel
theorem dX8_errorOn_21 : dec mX8_errorOn 21 = .ok (.iload 4, 2) := by decide +kernel
theorem dX8_errorOn_23 : dec mX8_errorOn 23 = .ok (.iconst 1, 1) := by decide +kernel
theorem dX8_errorOn_24 : dec mX8_errorOn 24 = .ok (.if_icmp .ne 11, 3) := by decide +kernel
theorem dX8_errorOn_27 : dec mX8_errorOn 27 = .ok (.aload_n 0, 1) := by decide +kernel
theorem dX8_errorOn_28 : dec mX8_errorOn 28 = .ok (.iload_n 3, 1) := by decide +kernel
theorem dX8_errorOn_29 : dec mX8_errorOn 29 = .ok (.invokestatic 64, 3) := by decide +kernel
theorem dX8_errorOn_32 : dec mX8_errorOn 32 = .ok (.goto 8, 3) := by decide +kernel
theorem dX8_errorOn_35 : dec mX8_errorOn 35 = .ok (.aload_n 0, 1) := by decide +kernel
theorem dX8_errorOn_36 : dec mX8_errorOn 36 = .ok (.iload_n 3, 1) := by decide +kernel
theorem dX8_errorOn_37 : dec mX8_errorOn 37 = .ok (.invokestatic 61, 3) := by decide +kernel
theorem dX8_errorOn_40 : dec mX8_errorOn 40 = .ok (.istore 6, 2) := by decide +kernel
theorem dX8_errorOn_42 : dec mX8_errorOn 42 = .ok (.aload_n 0, 1) := by decide +kernel
theorem dX8_errorOn_43 : dec mX8_errorOn 43 = .ok (.iload_n 1, 1) := by decide +kernel
theorem dX8_errorOn_44 : dec mX8_errorOn 44 = .ok (.iload 5, 2) := by decide +kernel
theorem dX8_errorOn_46 : dec mX8_errorOn 46 = .ok (.invokestatic 67, 3) := by decide +kernel
theorem dX8_errorOn_49 : dec mX8_errorOn 49 = .ok (.aload_n 0, 1) := by decide +kernel
theorem dX8_errorOn_50 : dec mX8_errorOn 50 = .ok (.iload_n 2, 1) := by decide +kernel
theorem dX8_errorOn_51 : dec mX8_errorOn 51 = .ok (.iload 6, 2) := by decide +kernel
theorem dX8_errorOn_53 : dec mX8_errorOn 53 = .ok (.invokestatic 67, 3) := by decide +kernel
theorem dX8_errorOn_56 : dec mX8_errorOn 56 = .ok (.iadd, 1) := by decide +kernel
theorem dX8_errorOn_57 : dec mX8_errorOn 57 = .ok (.ireturn, 1) := by decide +kernel
theorem dX8_bestWay_0 : dec mX8_bestWay 0 = .ok (.aload_n 0, 1) := by decide +kernel
theorem dX8_bestWay_1 : dec mX8_bestWay 1 = .ok (.iload_n 1, 1) := by decide +kernel
theorem dX8_bestWay_2 : dec mX8_bestWay 2 = .ok (.iload_n 2, 1) := by decide +kernel
theorem dX8_bestWay_3 : dec mX8_bestWay 3 = .ok (.iload_n 3, 1) := by decide +kernel
theorem dX8_bestWay_4 : dec mX8_bestWay 4 = .ok (.iconst 0, 1) := by decide +kernel
theorem dX8_bestWay_5 : dec mX8_bestWay 5 = .ok (.invokestatic 71, 3) := by decide +kernel
theorem dX8_bestWay_8 : dec mX8_bestWay 8 = .ok (.aload_n 0, 1) := by decide +kernel
theorem dX8_bestWay_9 : dec mX8_bestWay 9 = .ok (.iload_n 1, 1) := by decide +kernel
theorem dX8_bestWay_10 : dec mX8_bestWay 10 = .ok (.iload_n 2, 1) := by decide +kernel
theorem dX8_bestWay_11 : dec mX8_bestWay 11 = .ok (.iload_n 3, 1) := by decide +kernel
theorem dX8_bestWay_12 : dec mX8_bestWay 12 = .ok (.iconst 1, 1) := by decide +kernel
theorem dX8_bestWay_13 : dec mX8_bestWay 13 = .ok (.invokestatic 71, 3) := by decide +kernel
theorem dX8_bestWay_16 : dec mX8_bestWay 16 = .ok (.if_icmp .le 7, 3) := by decide +kernel
theorem dX8_bestWay_19 : dec mX8_bestWay 19 = .ok (.iconst 1, 1) := by decide +kernel
theorem dX8_bestWay_20 : dec mX8_bestWay 20 = .ok (.goto 4, 3) := by decide +kernel
theorem dX8_bestWay_23 : dec mX8_bestWay 23 = .ok (.iconst 0, 1) := by decide +kernel
theorem dX8_bestWay_24 : dec mX8_bestWay 24 = .ok (.ireturn, 1) := by decide +kernel
theorem dX8_bestError_0 : dec mX8_bestError 0 = .ok (.aload_n 0, 1) := by decide +kernel
theorem dX8_bestError_1 : dec mX8_bestError 1 = .ok (.iload_n 1, 1) := by decide +kernel
theorem dX8_bestError_2 : dec mX8_bestError 2 = .ok (.iload_n 2, 1) := by decide +kernel
theorem dX8_bestError_3 : dec mX8_bestError 3 = .ok (.iload_n 3, 1) := by decide +kernel
theorem dX8_bestError_4 : dec mX8_bestError 4 = .ok (.aload_n 0, 1) := by decide +kernel
theorem dX8_bestError_5 : dec mX8_bestError 5 = .ok (.iload_n 1, 1) := by decide +kernel
theorem dX8_bestError_6 : dec mX8_bestError 6 = .ok (.iload_n 2, 1) := by decide +kernel
theorem dX8_bestError_7 : dec mX8_bestError 7 = .ok (.iload_n 3, 1) := by decide +kernel
theorem dX8_bestError_8 : dec mX8_bestError 8 = .ok (.invokestatic 75, 3) := by decide +kernel
theorem dX8_bestError_11 : dec mX8_bestError 11 = .ok (.invokestatic 71, 3) := by decide +kernel
theorem dX8_bestError_14 : dec mX8_bestError 14 = .ok (.ireturn, 1) := by decide +kernel
theorem dX8_otherOf_0 : dec mX8_otherOf 0 = .ok (.aload_n 0, 1) := by decide +kernel
theorem dX8_otherOf_1 : dec mX8_otherOf 1 = .ok (.bipush 115, 2) := by decide +kernel
theorem dX8_otherOf_3 : dec mX8_otherOf 3 = .ok (.iload_n 1, 1) := by decide +kernel
theorem dX8_otherOf_4 : dec mX8_otherOf 4 = .ok (.iadd, 1) := by decide +kernel
theorem dX8_otherOf_5 : dec mX8_otherOf 5 = .ok (.iaload, 1) := by decide +kernel
theorem dX8_otherOf_6 : dec mX8_otherOf 6 = .ok (.iconst 1, 1) := by decide +kernel
theorem dX8_otherOf_7 : dec mX8_otherOf 7 = .ok (.if_icmp .ne 9, 3) := by decide +kernel
theorem dX8_otherOf_10 : dec mX8_otherOf 10 = .ok (.iload_n 1, 1) := by decide +kernel
theorem dX8_otherOf_11 : dec mX8_otherOf 11 = .ok (.iconst 1, 1) := by decide +kernel
theorem dX8_otherOf_12 : dec mX8_otherOf 12 = .ok (.iadd, 1) := by decide +kernel
theorem dX8_otherOf_13 : dec mX8_otherOf 13 = .ok (.goto 9, 3) := by decide +kernel
theorem dX8_otherOf_16 : dec mX8_otherOf 16 = .ok (.iload_n 1, 1) := by decide +kernel
theorem dX8_otherOf_17 : dec mX8_otherOf 17 = .ok (.aload_n 0, 1) := by decide +kernel
theorem dX8_otherOf_18 : dec mX8_otherOf 18 = .ok (.invokestatic 40, 3) := by decide +kernel
theorem dX8_otherOf_21 : dec mX8_otherOf 21 = .ok (.iadd, 1) := by decide +kernel
theorem dX8_otherOf_22 : dec mX8_otherOf 22 = .ok (.ireturn, 1) := by decide +kernel
theorem dX8_firstOf_0 : dec mX8_firstOf 0 = .ok (.iconst (-1), 1) := by decide +kernel
theorem dX8_firstOf_1 : dec mX8_firstOf 1 = .ok (.istore_n 2, 1) := by decide +kernel
theorem dX8_firstOf_2 : dec mX8_firstOf 2 = .ok (.iconst (-1), 1) := by decide +kernel
theorem dX8_firstOf_3 : dec mX8_firstOf 3 = .ok (.istore_n 3, 1) := by decide +kernel
theorem dX8_firstOf_4 : dec mX8_firstOf 4 = .ok (.iload_n 2, 1) := by decide +kernel
theorem dX8_firstOf_5 : dec mX8_firstOf 5 = .ok (.iload_n 1, 1) := by decide +kernel
theorem dX8_firstOf_6 : dec mX8_firstOf 6 = .ok (.if_icmp .ge 26, 3) := by decide +kernel
theorem dX8_firstOf_9 : dec mX8_firstOf 9 = .ok (.iinc 3 1, 3) := by decide +kernel
theorem dX8_firstOf_12 : dec mX8_firstOf 12 = .ok (.iload_n 2, 1) := by decide +kernel
theorem dX8_firstOf_13 : dec mX8_firstOf 13 = .ok (.aload_n 0, 1) := by decide +kernel
theorem dX8_firstOf_14 : dec mX8_firstOf 14 = .ok (.bipush 115, 2) := by decide +kernel
theorem dX8_firstOf_16 : dec mX8_firstOf 16 = .ok (.iload_n 3, 1) := by decide +kernel
theorem dX8_firstOf_17 : dec mX8_firstOf 17 = .ok (.iadd, 1) := by decide +kernel
theorem dX8_firstOf_18 : dec mX8_firstOf 18 = .ok (.iaload, 1) := by decide +kernel
theorem dX8_firstOf_19 : dec mX8_firstOf 19 = .ok (.ifCond .le 7, 3) := by decide +kernel
theorem dX8_firstOf_22 : dec mX8_firstOf 22 = .ok (.iconst 1, 1) := by decide +kernel
theorem dX8_firstOf_23 : dec mX8_firstOf 23 = .ok (.goto 4, 3) := by decide +kernel
theorem dX8_firstOf_26 : dec mX8_firstOf 26 = .ok (.iconst 0, 1) := by decide +kernel
theorem dX8_firstOf_27 : dec mX8_firstOf 27 = .ok (.iadd, 1) := by decide +kernel
theorem dX8_firstOf_28 : dec mX8_firstOf 28 = .ok (.istore_n 2, 1) := by decide +kernel
theorem dX8_firstOf_29 : dec mX8_firstOf 29 = .ok (.goto (-25), 3) := by decide +kernel
theorem dX8_firstOf_32 : dec mX8_firstOf 32 = .ok (.iload_n 3, 1) := by decide +kernel
theorem dX8_firstOf_33 : dec mX8_firstOf 33 = .ok (.ireturn, 1) := by decide +kernel
theorem dX8_beginning_0 : dec mX8_beginning 0 = .ok (.aload_n 0, 1) := by decide +kernel
theorem dX8_beginning_1 : dec mX8_beginning 1 = .ok (.bipush 115, 2) := by decide +kernel
theorem dX8_beginning_3 : dec mX8_beginning 3 = .ok (.iload_n 1, 1) := by decide +kernel
theorem dX8_beginning_4 : dec mX8_beginning 4 = .ok (.iadd, 1) := by decide +kernel
theorem dX8_beginning_5 : dec mX8_beginning 5 = .ok (.iaload, 1) := by decide +kernel
theorem dX8_beginning_6 : dec mX8_beginning 6 = .ok (.ifCond .le 7, 3) := by decide +kernel
theorem dX8_beginning_9 : dec mX8_beginning 9 = .ok (.iload_n 1, 1) := by decide +kernel
theorem dX8_beginning_10 : dec mX8_beginning 10 = .ok (.goto 36, 3) := by decide +kernel
theorem dX8_beginning_13 : dec mX8_beginning 13 = .ok (.iload_n 1, 1) := by decide +kernel
theorem dX8_beginning_14 : dec mX8_beginning 14 = .ok (.aload_n 0, 1) := by decide +kernel
theorem dX8_beginning_15 : dec mX8_beginning 15 = .ok (.invokestatic 40, 3) := by decide +kernel
theorem dX8_beginning_18 : dec mX8_beginning 18 = .ok (.irem, 1) := by decide +kernel
theorem dX8_beginning_19 : dec mX8_beginning 19 = .ok (.ifCond .le 21, 3) := by decide +kernel
theorem dX8_beginning_22 : dec mX8_beginning 22 = .ok (.aload_n 0, 1) := by decide +kernel
theorem dX8_beginning_23 : dec mX8_beginning 23 = .ok (.bipush 115, 2) := by decide +kernel
theorem dX8_beginning_25 : dec mX8_beginning 25 = .ok (.iload_n 1, 1) := by decide +kernel
theorem dX8_beginning_26 : dec mX8_beginning 26 = .ok (.iadd, 1) := by decide +kernel
theorem dX8_beginning_27 : dec mX8_beginning 27 = .ok (.iconst 1, 1) := by decide +kernel
theorem dX8_beginning_28 : dec mX8_beginning 28 = .ok (.isub, 1) := by decide +kernel
theorem dX8_beginning_29 : dec mX8_beginning 29 = .ok (.iaload, 1) := by decide +kernel
theorem dX8_beginning_30 : dec mX8_beginning 30 = .ok (.iconst 1, 1) := by decide +kernel
theorem dX8_beginning_31 : dec mX8_beginning 31 = .ok (.if_icmp .ne 9, 3) := by decide +kernel
theorem dX8_beginning_34 : dec mX8_beginning 34 = .ok (.iload_n 1, 1) := by decide +kernel
theorem dX8_beginning_35 : dec mX8_beginning 35 = .ok (.iconst 1, 1) := by decide +kernel
theorem dX8_beginning_36 : dec mX8_beginning 36 = .ok (.isub, 1) := by decide +kernel
theorem dX8_beginning_37 : dec mX8_beginning 37 = .ok (.goto 9, 3) := by decide +kernel
theorem dX8_beginning_40 : dec mX8_beginning 40 = .ok (.iload_n 1, 1) := by decide +kernel
theorem dX8_beginning_41 : dec mX8_beginning 41 = .ok (.aload_n 0, 1) := by decide +kernel
theorem dX8_beginning_42 : dec mX8_beginning 42 = .ok (.invokestatic 40, 3) := by decide +kernel
theorem dX8_beginning_45 : dec mX8_beginning 45 = .ok (.isub, 1) := by decide +kernel
theorem dX8_beginning_46 : dec mX8_beginning 46 = .ok (.ireturn, 1) := by decide +kernel
theorem dX8_placeOf_0 : dec mX8_placeOf 0 = .ok (.aload_n 0, 1) := by decide +kernel
theorem dX8_placeOf_1 : dec mX8_placeOf 1 = .ok (.iload_n 1, 1) := by decide +kernel
theorem dX8_placeOf_2 : dec mX8_placeOf 2 = .ok (.invokestatic 79, 3) := by decide +kernel
theorem dX8_placeOf_5 : dec mX8_placeOf 5 = .ok (.istore_n 2, 1) := by decide +kernel
theorem dX8_placeOf_6 : dec mX8_placeOf 6 = .ok (.iconst 0, 1) := by decide +kernel
theorem dX8_placeOf_7 : dec mX8_placeOf 7 = .ok (.istore_n 3, 1) := by decide +kernel
theorem dX8_placeOf_8 : dec mX8_placeOf 8 = .ok (.iconst 0, 1) := by decide +kernel
theorem dX8_placeOf_9 : dec mX8_placeOf 9 = .ok (.istore 4, 2) := by decide +kernel
theorem dX8_placeOf_11 : dec mX8_placeOf 11 = .ok (.iload 4, 2) := by decide +kernel
theorem dX8_placeOf_13 : dec mX8_placeOf 13 = .ok (.iload_n 2, 1) := by decide +kernel
theorem dX8_placeOf_14 : dec mX8_placeOf 14 = .ok (.if_icmp .ge 27, 3) := by decide +kernel
theorem dX8_placeOf_17 : dec mX8_placeOf 17 = .ok (.iload_n 3, 1) := by decide +kernel
theorem dX8_placeOf_18 : dec mX8_placeOf 18 = .ok (.aload_n 0, 1) := by decide +kernel
theorem dX8_placeOf_19 : dec mX8_placeOf 19 = .ok (.bipush 115, 2) := by decide +kernel
theorem dX8_placeOf_21 : dec mX8_placeOf 21 = .ok (.iload 4, 2) := by decide +kernel
theorem dX8_placeOf_23 : dec mX8_placeOf 23 = .ok (.iadd, 1) := by decide +kernel
theorem dX8_placeOf_24 : dec mX8_placeOf 24 = .ok (.iaload, 1) := by decide +kernel
theorem dX8_placeOf_25 : dec mX8_placeOf 25 = .ok (.ifCond .le 7, 3) := by decide +kernel
theorem dX8_placeOf_28 : dec mX8_placeOf 28 = .ok (.iconst 1, 1) := by decide +kernel
theorem dX8_placeOf_29 : dec mX8_placeOf 29 = .ok (.goto 4, 3) := by decide +kernel
theorem dX8_placeOf_32 : dec mX8_placeOf 32 = .ok (.iconst 0, 1) := by decide +kernel
theorem dX8_placeOf_33 : dec mX8_placeOf 33 = .ok (.iadd, 1) := by decide +kernel
theorem dX8_placeOf_34 : dec mX8_placeOf 34 = .ok (.istore_n 3, 1) := by decide +kernel
theorem dX8_placeOf_35 : dec mX8_placeOf 35 = .ok (.iinc 4 1, 3) := by decide +kernel
theorem dX8_placeOf_38 : dec mX8_placeOf 38 = .ok (.goto (-27), 3) := by decide +kernel
theorem dX8_placeOf_41 : dec mX8_placeOf 41 = .ok (.iload_n 3, 1) := by decide +kernel
theorem dX8_placeOf_42 : dec mX8_placeOf 42 = .ok (.ireturn, 1) := by decide +kernel
theorem dX8_placeError_0 : dec mX8_placeError 0 = .ok (.aload_n 0, 1) := by decide +kernel
theorem dX8_placeError_1 : dec mX8_placeError 1 = .ok (.iload_n 1, 1) := by decide +kernel
theorem dX8_placeError_2 : dec mX8_placeError 2 = .ok (.aload_n 0, 1) := by decide +kernel
theorem dX8_placeError_3 : dec mX8_placeError 3 = .ok (.iload_n 1, 1) := by decide +kernel
theorem dX8_placeError_4 : dec mX8_placeError 4 = .ok (.invokestatic 82, 3) := by decide +kernel
theorem dX8_placeError_7 : dec mX8_placeError 7 = .ok (.aload_n 0, 1) := by decide +kernel
theorem dX8_placeError_8 : dec mX8_placeError 8 = .ok (.sipush 227, 3) := by decide +kernel
theorem dX8_placeError_11 : dec mX8_placeError 11 = .ok (.iload_n 1, 1) := by decide +kernel
theorem dX8_placeError_12 : dec mX8_placeError 12 = .ok (.iadd, 1) := by decide +kernel
theorem dX8_placeError_13 : dec mX8_placeError 13 = .ok (.iaload, 1) := by decide +kernel
theorem dX8_placeError_14 : dec mX8_placeError 14 = .ok (.aload_n 0, 1) := by decide +kernel
theorem dX8_placeError_15 : dec mX8_placeError 15 = .ok (.sipush 339, 3) := by decide +kernel
theorem dX8_placeError_18 : dec mX8_placeError 18 = .ok (.iload_n 1, 1) := by decide +kernel
theorem dX8_placeError_19 : dec mX8_placeError 19 = .ok (.iadd, 1) := by decide +kernel
theorem dX8_placeError_20 : dec mX8_placeError 20 = .ok (.iaload, 1) := by decide +kernel
theorem dX8_placeError_21 : dec mX8_placeError 21 = .ok (.invokestatic 71, 3) := by decide +kernel
theorem dX8_placeError_24 : dec mX8_placeError 24 = .ok (.ireturn, 1) := by decide +kernel
theorem dX8_wholeError_0 : dec mX8_wholeError 0 = .ok (.iconst 0, 1) := by decide +kernel
theorem dX8_wholeError_1 : dec mX8_wholeError 1 = .ok (.istore_n 1, 1) := by decide +kernel
theorem dX8_wholeError_2 : dec mX8_wholeError 2 = .ok (.iconst 0, 1) := by decide +kernel
theorem dX8_wholeError_3 : dec mX8_wholeError 3 = .ok (.istore_n 2, 1) := by decide +kernel
theorem dX8_wholeError_4 : dec mX8_wholeError 4 = .ok (.iload_n 2, 1) := by decide +kernel
theorem dX8_wholeError_5 : dec mX8_wholeError 5 = .ok (.aload_n 0, 1) := by decide +kernel
theorem dX8_wholeError_6 : dec mX8_wholeError 6 = .ok (.invokestatic 47, 3) := by decide +kernel
theorem dX8_wholeError_9 : dec mX8_wholeError 9 = .ok (.if_icmp .ge 30, 3) := by decide +kernel
theorem dX8_wholeError_12 : dec mX8_wholeError 12 = .ok (.iload_n 1, 1) := by decide +kernel
theorem dX8_wholeError_13 : dec mX8_wholeError 13 = .ok (.aload_n 0, 1) := by decide +kernel
theorem dX8_wholeError_14 : dec mX8_wholeError 14 = .ok (.bipush 115, 2) := by decide +kernel
theorem dX8_wholeError_16 : dec mX8_wholeError 16 = .ok (.iload_n 2, 1) := by decide +kernel
theorem dX8_wholeError_17 : dec mX8_wholeError 17 = .ok (.iadd, 1) := by decide +kernel
theorem dX8_wholeError_18 : dec mX8_wholeError 18 = .ok (.iaload, 1) := by decide +kernel
theorem dX8_wholeError_19 : dec mX8_wholeError 19 = .ok (.ifCond .le 11, 3) := by decide +kernel
theorem dX8_wholeError_22 : dec mX8_wholeError 22 = .ok (.aload_n 0, 1) := by decide +kernel
theorem dX8_wholeError_23 : dec mX8_wholeError 23 = .ok (.iload_n 2, 1) := by decide +kernel
theorem dX8_wholeError_24 : dec mX8_wholeError 24 = .ok (.invokestatic 85, 3) := by decide +kernel
theorem dX8_wholeError_27 : dec mX8_wholeError 27 = .ok (.goto 4, 3) := by decide +kernel
theorem dX8_wholeError_30 : dec mX8_wholeError 30 = .ok (.iconst 0, 1) := by decide +kernel
theorem dX8_wholeError_31 : dec mX8_wholeError 31 = .ok (.iadd, 1) := by decide +kernel
theorem dX8_wholeError_32 : dec mX8_wholeError 32 = .ok (.istore_n 1, 1) := by decide +kernel
theorem dX8_wholeError_33 : dec mX8_wholeError 33 = .ok (.iinc 2 1, 3) := by decide +kernel
theorem dX8_wholeError_36 : dec mX8_wholeError 36 = .ok (.goto (-32), 3) := by decide +kernel
theorem dX8_wholeError_39 : dec mX8_wholeError 39 = .ok (.iload_n 1, 1) := by decide +kernel
theorem dX8_wholeError_40 : dec mX8_wholeError 40 = .ok (.ireturn, 1) := by decide +kernel
theorem dX8_pipsOn_0 : dec mX8_pipsOn 0 = .ok (.aload_n 0, 1) := by decide +kernel
theorem dX8_pipsOn_1 : dec mX8_pipsOn 1 = .ok (.iload_n 1, 1) := by decide +kernel
theorem dX8_pipsOn_2 : dec mX8_pipsOn 2 = .ok (.invokestatic 79, 3) := by decide +kernel
theorem dX8_pipsOn_5 : dec mX8_pipsOn 5 = .ok (.istore_n 2, 1) := by decide +kernel
theorem dX8_pipsOn_6 : dec mX8_pipsOn 6 = .ok (.iload_n 2, 1) := by decide +kernel
theorem dX8_pipsOn_7 : dec mX8_pipsOn 7 = .ok (.iload_n 1, 1) := by decide +kernel
theorem dX8_pipsOn_8 : dec mX8_pipsOn 8 = .ok (.if_icmp .ne 7, 3) := by decide +kernel
theorem dX8_pipsOn_11 : dec mX8_pipsOn 11 = .ok (.iconst 1, 1) := by decide +kernel
theorem dX8_pipsOn_12 : dec mX8_pipsOn 12 = .ok (.goto 4, 3) := by decide +kernel
theorem dX8_pipsOn_15 : dec mX8_pipsOn 15 = .ok (.iconst 0, 1) := by decide +kernel
theorem dX8_pipsOn_16 : dec mX8_pipsOn 16 = .ok (.aload_n 0, 1) := by decide +kernel
theorem dX8_pipsOn_17 : dec mX8_pipsOn 17 = .ok (.sipush 339, 3) := by decide +kernel
theorem dX8_pipsOn_20 : dec mX8_pipsOn 20 = .ok (.iload_n 2, 1) := by decide +kernel
theorem dX8_pipsOn_21 : dec mX8_pipsOn 21 = .ok (.iadd, 1) := by decide +kernel
theorem dX8_pipsOn_22 : dec mX8_pipsOn 22 = .ok (.iaload, 1) := by decide +kernel
theorem dX8_pipsOn_23 : dec mX8_pipsOn 23 = .ok (.ifCond .ne 7, 3) := by decide +kernel
theorem dX8_pipsOn_26 : dec mX8_pipsOn 26 = .ok (.iconst 1, 1) := by decide +kernel
theorem dX8_pipsOn_27 : dec mX8_pipsOn 27 = .ok (.goto 4, 3) := by decide +kernel
theorem dX8_pipsOn_30 : dec mX8_pipsOn 30 = .ok (.iconst 0, 1) := by decide +kernel
theorem dX8_pipsOn_31 : dec mX8_pipsOn 31 = .ok (.if_icmp .ne 7, 3) := by decide +kernel
theorem dX8_pipsOn_34 : dec mX8_pipsOn 34 = .ok (.iconst 1, 1) := by decide +kernel
theorem dX8_pipsOn_35 : dec mX8_pipsOn 35 = .ok (.goto 4, 3) := by decide +kernel
theorem dX8_pipsOn_38 : dec mX8_pipsOn 38 = .ok (.iconst 0, 1) := by decide +kernel
theorem dX8_pipsOn_39 : dec mX8_pipsOn 39 = .ok (.istore_n 3, 1) := by decide +kernel
theorem dX8_pipsOn_40 : dec mX8_pipsOn 40 = .ok (.iload_n 3, 1) := by decide +kernel
theorem dX8_pipsOn_41 : dec mX8_pipsOn 41 = .ok (.ifCond .eq 17, 3) := by decide +kernel
theorem dX8_pipsOn_44 : dec mX8_pipsOn 44 = .ok (.aload_n 0, 1) := by decide +kernel
theorem dX8_pipsOn_45 : dec mX8_pipsOn 45 = .ok (.aload_n 0, 1) := by decide +kernel
theorem dX8_pipsOn_46 : dec mX8_pipsOn 46 = .ok (.sipush 227, 3) := by decide +kernel
theorem dX8_pipsOn_49 : dec mX8_pipsOn 49 = .ok (.iload_n 2, 1) := by decide +kernel
theorem dX8_pipsOn_50 : dec mX8_pipsOn 50 = .ok (.iadd, 1) := by decide +kernel
theorem dX8_pipsOn_51 : dec mX8_pipsOn 51 = .ok (.iaload, 1) := by decide +kernel
theorem dX8_pipsOn_52 : dec mX8_pipsOn 52 = .ok (.invokestatic 64, 3) := by decide +kernel
theorem dX8_pipsOn_55 : dec mX8_pipsOn 55 = .ok (.goto 14, 3) := by decide +kernel
theorem dX8_pipsOn_58 : dec mX8_pipsOn 58 = .ok (.aload_n 0, 1) := by decide +kernel
theorem dX8_pipsOn_59 : dec mX8_pipsOn 59 = .ok (.aload_n 0, 1) := by decide +kernel
theorem dX8_pipsOn_60 : dec mX8_pipsOn 60 = .ok (.sipush 227, 3) := by decide +kernel
theorem dX8_pipsOn_63 : dec mX8_pipsOn 63 = .ok (.iload_n 2, 1) := by decide +kernel
theorem dX8_pipsOn_64 : dec mX8_pipsOn 64 = .ok (.iadd, 1) := by decide +kernel
theorem dX8_pipsOn_65 : dec mX8_pipsOn 65 = .ok (.iaload, 1) := by decide +kernel
theorem dX8_pipsOn_66 : dec mX8_pipsOn 66 = .ok (.invokestatic 61, 3) := by decide +kernel
theorem dX8_pipsOn_69 : dec mX8_pipsOn 69 = .ok (.ireturn, 1) := by decide +kernel
theorem dX8_partner_0 : dec mX8_partner 0 = .ok (.aload_n 0, 1) := by decide +kernel
theorem dX8_partner_1 : dec mX8_partner 1 = .ok (.invokestatic 40, 3) := by decide +kernel
theorem dX8_partner_4 : dec mX8_partner 4 = .ok (.istore_n 2, 1) := by decide +kernel
theorem dX8_partner_5 : dec mX8_partner 5 = .ok (.iload_n 1, 1) := by decide +kernel
theorem dX8_partner_6 : dec mX8_partner 6 = .ok (.iload_n 2, 1) := by decide +kernel
theorem dX8_partner_7 : dec mX8_partner 7 = .ok (.irem, 1) := by decide +kernel
theorem dX8_partner_8 : dec mX8_partner 8 = .ok (.iload_n 2, 1) := by decide +kernel
theorem dX8_partner_9 : dec mX8_partner 9 = .ok (.iconst 1, 1) := by decide +kernel
theorem dX8_partner_10 : dec mX8_partner 10 = .ok (.isub, 1) := by decide +kernel
theorem dX8_partner_11 : dec mX8_partner 11 = .ok (.if_icmp .eq 24, 3) := by decide +kernel
theorem dX8_partner_14 : dec mX8_partner 14 = .ok (.iload_n 1, 1) := by decide +kernel
theorem dX8_partner_15 : dec mX8_partner 15 = .ok (.iload_n 2, 1) := by decide +kernel
theorem dX8_partner_16 : dec mX8_partner 16 = .ok (.idiv, 1) := by decide +kernel
theorem dX8_partner_17 : dec mX8_partner 17 = .ok (.aload_n 0, 1) := by decide +kernel
theorem dX8_partner_18 : dec mX8_partner 18 = .ok (.invokestatic 44, 3) := by decide +kernel
theorem dX8_partner_21 : dec mX8_partner 21 = .ok (.iconst 1, 1) := by decide +kernel
theorem dX8_partner_22 : dec mX8_partner 22 = .ok (.isub, 1) := by decide +kernel
theorem dX8_partner_23 : dec mX8_partner 23 = .ok (.if_icmp .ge 12, 3) := by decide +kernel
theorem dX8_partner_26 : dec mX8_partner 26 = .ok (.aload_n 0, 1) := by decide +kernel
theorem dX8_partner_27 : dec mX8_partner 27 = .ok (.bipush 115, 2) := by decide +kernel
theorem dX8_partner_29 : dec mX8_partner 29 = .ok (.iload_n 1, 1) := by decide +kernel
theorem dX8_partner_30 : dec mX8_partner 30 = .ok (.iadd, 1) := by decide +kernel
theorem dX8_partner_31 : dec mX8_partner 31 = .ok (.iaload, 1) := by decide +kernel
theorem dX8_partner_32 : dec mX8_partner 32 = .ok (.ifCond .ne 5, 3) := by decide +kernel
theorem dX8_partner_35 : dec mX8_partner 35 = .ok (.iconst (-1), 1) := by decide +kernel
theorem dX8_partner_36 : dec mX8_partner 36 = .ok (.ireturn, 1) := by decide +kernel
theorem dX8_partner_37 : dec mX8_partner 37 = .ok (.aload_n 0, 1) := by decide +kernel
theorem dX8_partner_38 : dec mX8_partner 38 = .ok (.bipush 115, 2) := by decide +kernel
theorem dX8_partner_40 : dec mX8_partner 40 = .ok (.iload_n 1, 1) := by decide +kernel
theorem dX8_partner_41 : dec mX8_partner 41 = .ok (.iadd, 1) := by decide +kernel
theorem dX8_partner_42 : dec mX8_partner 42 = .ok (.iaload, 1) := by decide +kernel
theorem dX8_partner_43 : dec mX8_partner 43 = .ok (.iconst 1, 1) := by decide +kernel
theorem dX8_partner_44 : dec mX8_partner 44 = .ok (.if_icmp .ne 9, 3) := by decide +kernel
theorem dX8_partner_47 : dec mX8_partner 47 = .ok (.iload_n 1, 1) := by decide +kernel
theorem dX8_partner_48 : dec mX8_partner 48 = .ok (.iload_n 2, 1) := by decide +kernel
theorem dX8_partner_49 : dec mX8_partner 49 = .ok (.iadd, 1) := by decide +kernel
theorem dX8_partner_50 : dec mX8_partner 50 = .ok (.goto 6, 3) := by decide +kernel
theorem dX8_partner_53 : dec mX8_partner 53 = .ok (.iload_n 1, 1) := by decide +kernel
theorem dX8_partner_54 : dec mX8_partner 54 = .ok (.iconst 1, 1) := by decide +kernel
theorem dX8_partner_55 : dec mX8_partner 55 = .ok (.iadd, 1) := by decide +kernel
theorem dX8_partner_56 : dec mX8_partner 56 = .ok (.istore_n 3, 1) := by decide +kernel
theorem dX8_partner_57 : dec mX8_partner 57 = .ok (.aload_n 0, 1) := by decide +kernel
theorem dX8_partner_58 : dec mX8_partner 58 = .ok (.bipush 115, 2) := by decide +kernel
theorem dX8_partner_60 : dec mX8_partner 60 = .ok (.iload_n 3, 1) := by decide +kernel
theorem dX8_partner_61 : dec mX8_partner 61 = .ok (.iadd, 1) := by decide +kernel
theorem dX8_partner_62 : dec mX8_partner 62 = .ok (.iaload, 1) := by decide +kernel
theorem dX8_partner_63 : dec mX8_partner 63 = .ok (.aload_n 0, 1) := by decide +kernel
theorem dX8_partner_64 : dec mX8_partner 64 = .ok (.bipush 115, 2) := by decide +kernel
theorem dX8_partner_66 : dec mX8_partner 66 = .ok (.iload_n 1, 1) := by decide +kernel
theorem dX8_partner_67 : dec mX8_partner 67 = .ok (.iadd, 1) := by decide +kernel
theorem dX8_partner_68 : dec mX8_partner 68 = .ok (.iaload, 1) := by decide +kernel
theorem dX8_partner_69 : dec mX8_partner 69 = .ok (.if_icmp .ne 7, 3) := by decide +kernel
theorem dX8_partner_72 : dec mX8_partner 72 = .ok (.iload_n 3, 1) := by decide +kernel
theorem dX8_partner_73 : dec mX8_partner 73 = .ok (.goto 4, 3) := by decide +kernel
theorem dX8_partner_76 : dec mX8_partner 76 = .ok (.iconst (-1), 1) := by decide +kernel
theorem dX8_partner_77 : dec mX8_partner 77 = .ok (.ireturn, 1) := by decide +kernel
theorem dX8_gainOfTurn_0 : dec mX8_gainOfTurn 0 = .ok (.aload_n 0, 1) := by decide +kernel
theorem dX8_gainOfTurn_1 : dec mX8_gainOfTurn 1 = .ok (.iload_n 1, 1) := by decide +kernel
theorem dX8_gainOfTurn_2 : dec mX8_gainOfTurn 2 = .ok (.invokestatic 85, 3) := by decide +kernel
theorem dX8_gainOfTurn_5 : dec mX8_gainOfTurn 5 = .ok (.aload_n 0, 1) := by decide +kernel
theorem dX8_gainOfTurn_6 : dec mX8_gainOfTurn 6 = .ok (.iload_n 1, 1) := by decide +kernel
theorem dX8_gainOfTurn_7 : dec mX8_gainOfTurn 7 = .ok (.aload_n 0, 1) := by decide +kernel
theorem dX8_gainOfTurn_8 : dec mX8_gainOfTurn 8 = .ok (.iload_n 1, 1) := by decide +kernel
theorem dX8_gainOfTurn_9 : dec mX8_gainOfTurn 9 = .ok (.invokestatic 82, 3) := by decide +kernel
theorem dX8_gainOfTurn_12 : dec mX8_gainOfTurn 12 = .ok (.aload_n 0, 1) := by decide +kernel
theorem dX8_gainOfTurn_13 : dec mX8_gainOfTurn 13 = .ok (.sipush 227, 3) := by decide +kernel
theorem dX8_gainOfTurn_16 : dec mX8_gainOfTurn 16 = .ok (.iload_n 1, 1) := by decide +kernel
theorem dX8_gainOfTurn_17 : dec mX8_gainOfTurn 17 = .ok (.iadd, 1) := by decide +kernel
theorem dX8_gainOfTurn_18 : dec mX8_gainOfTurn 18 = .ok (.iaload, 1) := by decide +kernel
theorem dX8_gainOfTurn_19 : dec mX8_gainOfTurn 19 = .ok (.iconst 1, 1) := by decide +kernel
theorem dX8_gainOfTurn_20 : dec mX8_gainOfTurn 20 = .ok (.aload_n 0, 1) := by decide +kernel
theorem dX8_gainOfTurn_21 : dec mX8_gainOfTurn 21 = .ok (.sipush 339, 3) := by decide +kernel
theorem dX8_gainOfTurn_24 : dec mX8_gainOfTurn 24 = .ok (.iload_n 1, 1) := by decide +kernel
theorem dX8_gainOfTurn_25 : dec mX8_gainOfTurn 25 = .ok (.iadd, 1) := by decide +kernel
theorem dX8_gainOfTurn_26 : dec mX8_gainOfTurn 26 = .ok (.iaload, 1) := by decide +kernel
theorem dX8_gainOfTurn_27 : dec mX8_gainOfTurn 27 = .ok (.isub, 1) := by decide +kernel
theorem dX8_gainOfTurn_28 : dec mX8_gainOfTurn 28 = .ok (.invokestatic 71, 3) := by decide +kernel
theorem dX8_gainOfTurn_31 : dec mX8_gainOfTurn 31 = .ok (.isub, 1) := by decide +kernel
theorem dX8_gainOfTurn_32 : dec mX8_gainOfTurn 32 = .ok (.ireturn, 1) := by decide +kernel
theorem dX8_gainOfSwap_0 : dec mX8_gainOfSwap 0 = .ok (.aload_n 0, 1) := by decide +kernel
theorem dX8_gainOfSwap_1 : dec mX8_gainOfSwap 1 = .ok (.iload_n 1, 1) := by decide +kernel
theorem dX8_gainOfSwap_2 : dec mX8_gainOfSwap 2 = .ok (.invokestatic 85, 3) := by decide +kernel
theorem dX8_gainOfSwap_5 : dec mX8_gainOfSwap 5 = .ok (.aload_n 0, 1) := by decide +kernel
theorem dX8_gainOfSwap_6 : dec mX8_gainOfSwap 6 = .ok (.iload_n 2, 1) := by decide +kernel
theorem dX8_gainOfSwap_7 : dec mX8_gainOfSwap 7 = .ok (.invokestatic 85, 3) := by decide +kernel
theorem dX8_gainOfSwap_10 : dec mX8_gainOfSwap 10 = .ok (.iadd, 1) := by decide +kernel
theorem dX8_gainOfSwap_11 : dec mX8_gainOfSwap 11 = .ok (.istore_n 3, 1) := by decide +kernel
theorem dX8_gainOfSwap_12 : dec mX8_gainOfSwap 12 = .ok (.iload_n 3, 1) := by decide +kernel
theorem dX8_gainOfSwap_13 : dec mX8_gainOfSwap 13 = .ok (.aload_n 0, 1) := by decide +kernel
theorem dX8_gainOfSwap_14 : dec mX8_gainOfSwap 14 = .ok (.iload_n 1, 1) := by decide +kernel
theorem dX8_gainOfSwap_15 : dec mX8_gainOfSwap 15 = .ok (.aload_n 0, 1) := by decide +kernel
theorem dX8_gainOfSwap_16 : dec mX8_gainOfSwap 16 = .ok (.iload_n 1, 1) := by decide +kernel
theorem dX8_gainOfSwap_17 : dec mX8_gainOfSwap 17 = .ok (.invokestatic 82, 3) := by decide +kernel
theorem dX8_gainOfSwap_20 : dec mX8_gainOfSwap 20 = .ok (.aload_n 0, 1) := by decide +kernel
theorem dX8_gainOfSwap_21 : dec mX8_gainOfSwap 21 = .ok (.sipush 227, 3) := by decide +kernel
theorem dX8_gainOfSwap_24 : dec mX8_gainOfSwap 24 = .ok (.iload_n 2, 1) := by decide +kernel
theorem dX8_gainOfSwap_25 : dec mX8_gainOfSwap 25 = .ok (.iadd, 1) := by decide +kernel
theorem dX8_gainOfSwap_26 : dec mX8_gainOfSwap 26 = .ok (.iaload, 1) := by decide +kernel
theorem dX8_gainOfSwap_27 : dec mX8_gainOfSwap 27 = .ok (.invokestatic 88, 3) := by decide +kernel
theorem dX8_gainOfSwap_30 : dec mX8_gainOfSwap 30 = .ok (.isub, 1) := by decide +kernel
theorem dX8_gainOfSwap_31 : dec mX8_gainOfSwap 31 = .ok (.aload_n 0, 1) := by decide +kernel
theorem dX8_gainOfSwap_32 : dec mX8_gainOfSwap 32 = .ok (.iload_n 2, 1) := by decide +kernel
theorem dX8_gainOfSwap_33 : dec mX8_gainOfSwap 33 = .ok (.aload_n 0, 1) := by decide +kernel
theorem dX8_gainOfSwap_34 : dec mX8_gainOfSwap 34 = .ok (.iload_n 2, 1) := by decide +kernel
theorem dX8_gainOfSwap_35 : dec mX8_gainOfSwap 35 = .ok (.invokestatic 82, 3) := by decide +kernel
theorem dX8_gainOfSwap_38 : dec mX8_gainOfSwap 38 = .ok (.aload_n 0, 1) := by decide +kernel
theorem dX8_gainOfSwap_39 : dec mX8_gainOfSwap 39 = .ok (.sipush 227, 3) := by decide +kernel
theorem dX8_gainOfSwap_42 : dec mX8_gainOfSwap 42 = .ok (.iload_n 1, 1) := by decide +kernel
theorem dX8_gainOfSwap_43 : dec mX8_gainOfSwap 43 = .ok (.iadd, 1) := by decide +kernel
theorem dX8_gainOfSwap_44 : dec mX8_gainOfSwap 44 = .ok (.iaload, 1) := by decide +kernel
theorem dX8_gainOfSwap_45 : dec mX8_gainOfSwap 45 = .ok (.invokestatic 88, 3) := by decide +kernel
theorem dX8_gainOfSwap_48 : dec mX8_gainOfSwap 48 = .ok (.isub, 1) := by decide +kernel
theorem dX8_gainOfSwap_49 : dec mX8_gainOfSwap 49 = .ok (.ireturn, 1) := by decide +kernel
theorem dX8_gainOfFlip_0 : dec mX8_gainOfFlip 0 = .ok (.aload_n 0, 1) := by decide +kernel
theorem dX8_gainOfFlip_1 : dec mX8_gainOfFlip 1 = .ok (.invokestatic 40, 3) := by decide +kernel
theorem dX8_gainOfFlip_4 : dec mX8_gainOfFlip 4 = .ok (.istore_n 2, 1) := by decide +kernel
theorem dX8_gainOfFlip_5 : dec mX8_gainOfFlip 5 = .ok (.aload_n 0, 1) := by decide +kernel
theorem dX8_gainOfFlip_6 : dec mX8_gainOfFlip 6 = .ok (.iload_n 1, 1) := by decide +kernel
theorem dX8_gainOfFlip_7 : dec mX8_gainOfFlip 7 = .ok (.invokestatic 91, 3) := by decide +kernel
theorem dX8_gainOfFlip_10 : dec mX8_gainOfFlip 10 = .ok (.istore_n 3, 1) := by decide +kernel
theorem dX8_gainOfFlip_11 : dec mX8_gainOfFlip 11 = .ok (.aload_n 0, 1) := by decide +kernel
theorem dX8_gainOfFlip_12 : dec mX8_gainOfFlip 12 = .ok (.iload_n 1, 1) := by decide +kernel
theorem dX8_gainOfFlip_13 : dec mX8_gainOfFlip 13 = .ok (.invokestatic 85, 3) := by decide +kernel
theorem dX8_gainOfFlip_16 : dec mX8_gainOfFlip 16 = .ok (.aload_n 0, 1) := by decide +kernel
theorem dX8_gainOfFlip_17 : dec mX8_gainOfFlip 17 = .ok (.iload_n 3, 1) := by decide +kernel
theorem dX8_gainOfFlip_18 : dec mX8_gainOfFlip 18 = .ok (.invokestatic 85, 3) := by decide +kernel
theorem dX8_gainOfFlip_21 : dec mX8_gainOfFlip 21 = .ok (.iadd, 1) := by decide +kernel
theorem dX8_gainOfFlip_22 : dec mX8_gainOfFlip 22 = .ok (.istore 4, 2) := by decide +kernel
theorem dX8_gainOfFlip_24 : dec mX8_gainOfFlip 24 = .ok (.aload_n 0, 1) := by decide +kernel
theorem dX8_gainOfFlip_25 : dec mX8_gainOfFlip 25 = .ok (.bipush 115, 2) := by decide +kernel
theorem dX8_gainOfFlip_27 : dec mX8_gainOfFlip 27 = .ok (.iload_n 1, 1) := by decide +kernel
theorem dX8_gainOfFlip_28 : dec mX8_gainOfFlip 28 = .ok (.iadd, 1) := by decide +kernel
theorem dX8_gainOfFlip_29 : dec mX8_gainOfFlip 29 = .ok (.iaload, 1) := by decide +kernel
theorem dX8_gainOfFlip_30 : dec mX8_gainOfFlip 30 = .ok (.iconst 1, 1) := by decide +kernel
theorem dX8_gainOfFlip_31 : dec mX8_gainOfFlip 31 = .ok (.if_icmp .ne 7, 3) := by decide +kernel
theorem dX8_gainOfFlip_34 : dec mX8_gainOfFlip 34 = .ok (.iconst 1, 1) := by decide +kernel
theorem dX8_gainOfFlip_35 : dec mX8_gainOfFlip 35 = .ok (.goto 4, 3) := by decide +kernel
theorem dX8_gainOfFlip_38 : dec mX8_gainOfFlip 38 = .ok (.iconst 0, 1) := by decide +kernel
theorem dX8_gainOfFlip_39 : dec mX8_gainOfFlip 39 = .ok (.istore 5, 2) := by decide +kernel
theorem dX8_gainOfFlip_41 : dec mX8_gainOfFlip 41 = .ok (.iload 5, 2) := by decide +kernel
theorem dX8_gainOfFlip_43 : dec mX8_gainOfFlip 43 = .ok (.ifCond .eq 9, 3) := by decide +kernel
theorem dX8_gainOfFlip_46 : dec mX8_gainOfFlip 46 = .ok (.iload_n 1, 1) := by decide +kernel
theorem dX8_gainOfFlip_47 : dec mX8_gainOfFlip 47 = .ok (.iload_n 2, 1) := by decide +kernel
theorem dX8_gainOfFlip_48 : dec mX8_gainOfFlip 48 = .ok (.iadd, 1) := by decide +kernel
theorem dX8_gainOfFlip_49 : dec mX8_gainOfFlip 49 = .ok (.goto 6, 3) := by decide +kernel
theorem dX8_gainOfFlip_52 : dec mX8_gainOfFlip 52 = .ok (.iload_n 1, 1) := by decide +kernel
theorem dX8_gainOfFlip_53 : dec mX8_gainOfFlip 53 = .ok (.iconst 1, 1) := by decide +kernel
theorem dX8_gainOfFlip_54 : dec mX8_gainOfFlip 54 = .ok (.iadd, 1) := by decide +kernel
theorem dX8_gainOfFlip_55 : dec mX8_gainOfFlip 55 = .ok (.istore 6, 2) := by decide +kernel
theorem dX8_gainOfFlip_57 : dec mX8_gainOfFlip 57 = .ok (.iload 5, 2) := by decide +kernel
theorem dX8_gainOfFlip_59 : dec mX8_gainOfFlip 59 = .ok (.ifCond .eq 9, 3) := by decide +kernel
theorem dX8_gainOfFlip_62 : dec mX8_gainOfFlip 62 = .ok (.iload_n 1, 1) := by decide +kernel
theorem dX8_gainOfFlip_63 : dec mX8_gainOfFlip 63 = .ok (.iconst 1, 1) := by decide +kernel
theorem dX8_gainOfFlip_64 : dec mX8_gainOfFlip 64 = .ok (.iadd, 1) := by decide +kernel
theorem dX8_gainOfFlip_65 : dec mX8_gainOfFlip 65 = .ok (.goto 6, 3) := by decide +kernel
theorem dX8_gainOfFlip_68 : dec mX8_gainOfFlip 68 = .ok (.iload_n 1, 1) := by decide +kernel
theorem dX8_gainOfFlip_69 : dec mX8_gainOfFlip 69 = .ok (.iload_n 2, 1) := by decide +kernel
theorem dX8_gainOfFlip_70 : dec mX8_gainOfFlip 70 = .ok (.iadd, 1) := by decide +kernel
theorem dX8_gainOfFlip_71 : dec mX8_gainOfFlip 71 = .ok (.istore 7, 2) := by decide +kernel
theorem dX8_gainOfFlip_73 : dec mX8_gainOfFlip 73 = .ok (.iload 4, 2) := by decide +kernel
theorem dX8_gainOfFlip_75 : dec mX8_gainOfFlip 75 = .ok (.aload_n 0, 1) := by decide +kernel
theorem dX8_gainOfFlip_76 : dec mX8_gainOfFlip 76 = .ok (.iload_n 1, 1) := by decide +kernel
theorem dX8_gainOfFlip_77 : dec mX8_gainOfFlip 77 = .ok (.iload 6, 2) := by decide +kernel
theorem dX8_gainOfFlip_79 : dec mX8_gainOfFlip 79 = .ok (.aload_n 0, 1) := by decide +kernel
theorem dX8_gainOfFlip_80 : dec mX8_gainOfFlip 80 = .ok (.sipush 227, 3) := by decide +kernel
theorem dX8_gainOfFlip_83 : dec mX8_gainOfFlip 83 = .ok (.iload_n 1, 1) := by decide +kernel
theorem dX8_gainOfFlip_84 : dec mX8_gainOfFlip 84 = .ok (.iadd, 1) := by decide +kernel
theorem dX8_gainOfFlip_85 : dec mX8_gainOfFlip 85 = .ok (.iaload, 1) := by decide +kernel
theorem dX8_gainOfFlip_86 : dec mX8_gainOfFlip 86 = .ok (.invokestatic 88, 3) := by decide +kernel
theorem dX8_gainOfFlip_89 : dec mX8_gainOfFlip 89 = .ok (.isub, 1) := by decide +kernel
theorem dX8_gainOfFlip_90 : dec mX8_gainOfFlip 90 = .ok (.aload_n 0, 1) := by decide +kernel
theorem dX8_gainOfFlip_91 : dec mX8_gainOfFlip 91 = .ok (.iload 7, 2) := by decide +kernel
theorem dX8_gainOfFlip_93 : dec mX8_gainOfFlip 93 = .ok (.iload_n 1, 1) := by decide +kernel
theorem dX8_gainOfFlip_94 : dec mX8_gainOfFlip 94 = .ok (.iload_n 2, 1) := by decide +kernel
theorem dX8_gainOfFlip_95 : dec mX8_gainOfFlip 95 = .ok (.iadd, 1) := by decide +kernel
theorem dX8_gainOfFlip_96 : dec mX8_gainOfFlip 96 = .ok (.iconst 1, 1) := by decide +kernel
theorem dX8_gainOfFlip_97 : dec mX8_gainOfFlip 97 = .ok (.iadd, 1) := by decide +kernel
theorem dX8_gainOfFlip_98 : dec mX8_gainOfFlip 98 = .ok (.aload_n 0, 1) := by decide +kernel
theorem dX8_gainOfFlip_99 : dec mX8_gainOfFlip 99 = .ok (.sipush 227, 3) := by decide +kernel
theorem dX8_gainOfFlip_102 : dec mX8_gainOfFlip 102 = .ok (.iload_n 3, 1) := by decide +kernel
theorem dX8_gainOfFlip_103 : dec mX8_gainOfFlip 103 = .ok (.iadd, 1) := by decide +kernel
theorem dX8_gainOfFlip_104 : dec mX8_gainOfFlip 104 = .ok (.iaload, 1) := by decide +kernel
theorem dX8_gainOfFlip_105 : dec mX8_gainOfFlip 105 = .ok (.invokestatic 88, 3) := by decide +kernel
theorem dX8_gainOfFlip_108 : dec mX8_gainOfFlip 108 = .ok (.isub, 1) := by decide +kernel
theorem dX8_gainOfFlip_109 : dec mX8_gainOfFlip 109 = .ok (.ireturn, 1) := by decide +kernel
theorem dX8_turnOn_0 : dec mX8_turnOn 0 = .ok (.aload_n 0, 1) := by decide +kernel
theorem dX8_turnOn_1 : dec mX8_turnOn 1 = .ok (.iload_n 1, 1) := by decide +kernel
theorem dX8_turnOn_2 : dec mX8_turnOn 2 = .ok (.invokestatic 94, 3) := by decide +kernel
theorem dX8_turnOn_5 : dec mX8_turnOn 5 = .ok (.istore_n 2, 1) := by decide +kernel
theorem dX8_turnOn_6 : dec mX8_turnOn 6 = .ok (.aload_n 0, 1) := by decide +kernel
theorem dX8_turnOn_7 : dec mX8_turnOn 7 = .ok (.sipush 339, 3) := by decide +kernel
theorem dX8_turnOn_10 : dec mX8_turnOn 10 = .ok (.iload_n 1, 1) := by decide +kernel
theorem dX8_turnOn_11 : dec mX8_turnOn 11 = .ok (.iadd, 1) := by decide +kernel
theorem dX8_turnOn_12 : dec mX8_turnOn 12 = .ok (.iconst 1, 1) := by decide +kernel
theorem dX8_turnOn_13 : dec mX8_turnOn 13 = .ok (.aload_n 0, 1) := by decide +kernel
theorem dX8_turnOn_14 : dec mX8_turnOn 14 = .ok (.sipush 339, 3) := by decide +kernel
theorem dX8_turnOn_17 : dec mX8_turnOn 17 = .ok (.iload_n 1, 1) := by decide +kernel
theorem dX8_turnOn_18 : dec mX8_turnOn 18 = .ok (.iadd, 1) := by decide +kernel
theorem dX8_turnOn_19 : dec mX8_turnOn 19 = .ok (.iaload, 1) := by decide +kernel
theorem dX8_turnOn_20 : dec mX8_turnOn 20 = .ok (.isub, 1) := by decide +kernel
theorem dX8_turnOn_21 : dec mX8_turnOn 21 = .ok (.iastore, 1) := by decide +kernel
theorem dX8_turnOn_22 : dec mX8_turnOn 22 = .ok (.aload_n 0, 1) := by decide +kernel
theorem dX8_turnOn_23 : dec mX8_turnOn 23 = .ok (.iconst 2, 1) := by decide +kernel
theorem dX8_turnOn_24 : dec mX8_turnOn 24 = .ok (.dup2, 1) := by decide +kernel
theorem dX8_turnOn_25 : dec mX8_turnOn 25 = .ok (.iaload, 1) := by decide +kernel
theorem dX8_turnOn_26 : dec mX8_turnOn 26 = .ok (.iconst 1, 1) := by decide +kernel
theorem dX8_turnOn_27 : dec mX8_turnOn 27 = .ok (.iadd, 1) := by decide +kernel
theorem dX8_turnOn_28 : dec mX8_turnOn 28 = .ok (.iastore, 1) := by decide +kernel
theorem dX8_turnOn_29 : dec mX8_turnOn 29 = .ok (.iload_n 2, 1) := by decide +kernel
theorem dX8_turnOn_30 : dec mX8_turnOn 30 = .ok (.ireturn, 1) := by decide +kernel
theorem dX8_layTile_0 : dec mX8_layTile 0 = .ok (.aload_n 0, 1) := by decide +kernel
theorem dX8_layTile_1 : dec mX8_layTile 1 = .ok (.sipush 227, 3) := by decide +kernel
theorem dX8_layTile_4 : dec mX8_layTile 4 = .ok (.iload_n 1, 1) := by decide +kernel
theorem dX8_layTile_5 : dec mX8_layTile 5 = .ok (.iadd, 1) := by decide +kernel
theorem dX8_layTile_6 : dec mX8_layTile 6 = .ok (.iload_n 2, 1) := by decide +kernel
theorem dX8_layTile_7 : dec mX8_layTile 7 = .ok (.iastore, 1) := by decide +kernel
theorem dX8_layTile_8 : dec mX8_layTile 8 = .ok (.aload_n 0, 1) := by decide +kernel
theorem dX8_layTile_9 : dec mX8_layTile 9 = .ok (.sipush 339, 3) := by decide +kernel
theorem dX8_layTile_12 : dec mX8_layTile 12 = .ok (.iload_n 1, 1) := by decide +kernel
theorem dX8_layTile_13 : dec mX8_layTile 13 = .ok (.iadd, 1) := by decide +kernel
theorem dX8_layTile_14 : dec mX8_layTile 14 = .ok (.aload_n 0, 1) := by decide +kernel
theorem dX8_layTile_15 : dec mX8_layTile 15 = .ok (.iload_n 1, 1) := by decide +kernel
theorem dX8_layTile_16 : dec mX8_layTile 16 = .ok (.aload_n 0, 1) := by decide +kernel
theorem dX8_layTile_17 : dec mX8_layTile 17 = .ok (.iload_n 1, 1) := by decide +kernel
theorem dX8_layTile_18 : dec mX8_layTile 18 = .ok (.invokestatic 82, 3) := by decide +kernel
theorem dX8_layTile_21 : dec mX8_layTile 21 = .ok (.iload_n 2, 1) := by decide +kernel
theorem dX8_layTile_22 : dec mX8_layTile 22 = .ok (.invokestatic 75, 3) := by decide +kernel
theorem dX8_layTile_25 : dec mX8_layTile 25 = .ok (.iastore, 1) := by decide +kernel
theorem dX8_layTile_26 : dec mX8_layTile 26 = .ok (.return_, 1) := by decide +kernel
theorem dX8_swapOn_0 : dec mX8_swapOn 0 = .ok (.aload_n 0, 1) := by decide +kernel
theorem dX8_swapOn_1 : dec mX8_swapOn 1 = .ok (.iload_n 1, 1) := by decide +kernel
theorem dX8_swapOn_2 : dec mX8_swapOn 2 = .ok (.iload_n 2, 1) := by decide +kernel
theorem dX8_swapOn_3 : dec mX8_swapOn 3 = .ok (.invokestatic 97, 3) := by decide +kernel
theorem dX8_swapOn_6 : dec mX8_swapOn 6 = .ok (.istore_n 3, 1) := by decide +kernel
theorem dX8_swapOn_7 : dec mX8_swapOn 7 = .ok (.aload_n 0, 1) := by decide +kernel
theorem dX8_swapOn_8 : dec mX8_swapOn 8 = .ok (.sipush 227, 3) := by decide +kernel
theorem dX8_swapOn_11 : dec mX8_swapOn 11 = .ok (.iload_n 1, 1) := by decide +kernel
theorem dX8_swapOn_12 : dec mX8_swapOn 12 = .ok (.iadd, 1) := by decide +kernel
theorem dX8_swapOn_13 : dec mX8_swapOn 13 = .ok (.iaload, 1) := by decide +kernel
theorem dX8_swapOn_14 : dec mX8_swapOn 14 = .ok (.istore 4, 2) := by decide +kernel
theorem dX8_swapOn_16 : dec mX8_swapOn 16 = .ok (.aload_n 0, 1) := by decide +kernel
theorem dX8_swapOn_17 : dec mX8_swapOn 17 = .ok (.iload_n 1, 1) := by decide +kernel
theorem dX8_swapOn_18 : dec mX8_swapOn 18 = .ok (.aload_n 0, 1) := by decide +kernel
theorem dX8_swapOn_19 : dec mX8_swapOn 19 = .ok (.sipush 227, 3) := by decide +kernel
theorem dX8_swapOn_22 : dec mX8_swapOn 22 = .ok (.iload_n 2, 1) := by decide +kernel
theorem dX8_swapOn_23 : dec mX8_swapOn 23 = .ok (.iadd, 1) := by decide +kernel
theorem dX8_swapOn_24 : dec mX8_swapOn 24 = .ok (.iaload, 1) := by decide +kernel
theorem dX8_swapOn_25 : dec mX8_swapOn 25 = .ok (.invokestatic 100, 3) := by decide +kernel
theorem dX8_swapOn_28 : dec mX8_swapOn 28 = .ok (.aload_n 0, 1) := by decide +kernel
theorem dX8_swapOn_29 : dec mX8_swapOn 29 = .ok (.iload_n 2, 1) := by decide +kernel
theorem dX8_swapOn_30 : dec mX8_swapOn 30 = .ok (.iload 4, 2) := by decide +kernel
theorem dX8_swapOn_32 : dec mX8_swapOn 32 = .ok (.invokestatic 100, 3) := by decide +kernel
theorem dX8_swapOn_35 : dec mX8_swapOn 35 = .ok (.aload_n 0, 1) := by decide +kernel
theorem dX8_swapOn_36 : dec mX8_swapOn 36 = .ok (.iconst 2, 1) := by decide +kernel
theorem dX8_swapOn_37 : dec mX8_swapOn 37 = .ok (.dup2, 1) := by decide +kernel
theorem dX8_swapOn_38 : dec mX8_swapOn 38 = .ok (.iaload, 1) := by decide +kernel
theorem dX8_swapOn_39 : dec mX8_swapOn 39 = .ok (.iconst 1, 1) := by decide +kernel
theorem dX8_swapOn_40 : dec mX8_swapOn 40 = .ok (.iadd, 1) := by decide +kernel
theorem dX8_swapOn_41 : dec mX8_swapOn 41 = .ok (.iastore, 1) := by decide +kernel
theorem dX8_swapOn_42 : dec mX8_swapOn 42 = .ok (.iload_n 3, 1) := by decide +kernel
theorem dX8_swapOn_43 : dec mX8_swapOn 43 = .ok (.ireturn, 1) := by decide +kernel
theorem dX8_flipOn_0 : dec mX8_flipOn 0 = .ok (.aload_n 0, 1) := by decide +kernel
theorem dX8_flipOn_1 : dec mX8_flipOn 1 = .ok (.iload_n 1, 1) := by decide +kernel
theorem dX8_flipOn_2 : dec mX8_flipOn 2 = .ok (.invokestatic 103, 3) := by decide +kernel
theorem dX8_flipOn_5 : dec mX8_flipOn 5 = .ok (.istore_n 2, 1) := by decide +kernel
theorem dX8_flipOn_6 : dec mX8_flipOn 6 = .ok (.aload_n 0, 1) := by decide +kernel
theorem dX8_flipOn_7 : dec mX8_flipOn 7 = .ok (.invokestatic 40, 3) := by decide +kernel
theorem dX8_flipOn_10 : dec mX8_flipOn 10 = .ok (.istore_n 3, 1) := by decide +kernel
theorem dX8_flipOn_11 : dec mX8_flipOn 11 = .ok (.aload_n 0, 1) := by decide +kernel
theorem dX8_flipOn_12 : dec mX8_flipOn 12 = .ok (.iload_n 1, 1) := by decide +kernel
theorem dX8_flipOn_13 : dec mX8_flipOn 13 = .ok (.invokestatic 91, 3) := by decide +kernel
theorem dX8_flipOn_16 : dec mX8_flipOn 16 = .ok (.istore 4, 2) := by decide +kernel
theorem dX8_flipOn_18 : dec mX8_flipOn 18 = .ok (.aload_n 0, 1) := by decide +kernel
theorem dX8_flipOn_19 : dec mX8_flipOn 19 = .ok (.bipush 115, 2) := by decide +kernel
theorem dX8_flipOn_21 : dec mX8_flipOn 21 = .ok (.iload_n 1, 1) := by decide +kernel
theorem dX8_flipOn_22 : dec mX8_flipOn 22 = .ok (.iadd, 1) := by decide +kernel
theorem dX8_flipOn_23 : dec mX8_flipOn 23 = .ok (.iaload, 1) := by decide +kernel
theorem dX8_flipOn_24 : dec mX8_flipOn 24 = .ok (.iconst 1, 1) := by decide +kernel
theorem dX8_flipOn_25 : dec mX8_flipOn 25 = .ok (.if_icmp .ne 9, 3) := by decide +kernel
theorem dX8_flipOn_28 : dec mX8_flipOn 28 = .ok (.iload_n 1, 1) := by decide +kernel
theorem dX8_flipOn_29 : dec mX8_flipOn 29 = .ok (.iconst 1, 1) := by decide +kernel
theorem dX8_flipOn_30 : dec mX8_flipOn 30 = .ok (.iadd, 1) := by decide +kernel
theorem dX8_flipOn_31 : dec mX8_flipOn 31 = .ok (.goto 6, 3) := by decide +kernel
theorem dX8_flipOn_34 : dec mX8_flipOn 34 = .ok (.iload_n 1, 1) := by decide +kernel
theorem dX8_flipOn_35 : dec mX8_flipOn 35 = .ok (.iload_n 3, 1) := by decide +kernel
theorem dX8_flipOn_36 : dec mX8_flipOn 36 = .ok (.iadd, 1) := by decide +kernel
theorem dX8_flipOn_37 : dec mX8_flipOn 37 = .ok (.istore 5, 2) := by decide +kernel
theorem dX8_flipOn_39 : dec mX8_flipOn 39 = .ok (.iconst 3, 1) := by decide +kernel
theorem dX8_flipOn_40 : dec mX8_flipOn 40 = .ok (.aload_n 0, 1) := by decide +kernel
theorem dX8_flipOn_41 : dec mX8_flipOn 41 = .ok (.bipush 115, 2) := by decide +kernel
theorem dX8_flipOn_43 : dec mX8_flipOn 43 = .ok (.iload_n 1, 1) := by decide +kernel
theorem dX8_flipOn_44 : dec mX8_flipOn 44 = .ok (.iadd, 1) := by decide +kernel
theorem dX8_flipOn_45 : dec mX8_flipOn 45 = .ok (.iaload, 1) := by decide +kernel
theorem dX8_flipOn_46 : dec mX8_flipOn 46 = .ok (.isub, 1) := by decide +kernel
theorem dX8_flipOn_47 : dec mX8_flipOn 47 = .ok (.istore 6, 2) := by decide +kernel
theorem dX8_flipOn_49 : dec mX8_flipOn 49 = .ok (.aload_n 0, 1) := by decide +kernel
theorem dX8_flipOn_50 : dec mX8_flipOn 50 = .ok (.sipush 227, 3) := by decide +kernel
theorem dX8_flipOn_53 : dec mX8_flipOn 53 = .ok (.iload 4, 2) := by decide +kernel
theorem dX8_flipOn_55 : dec mX8_flipOn 55 = .ok (.iadd, 1) := by decide +kernel
theorem dX8_flipOn_56 : dec mX8_flipOn 56 = .ok (.iaload, 1) := by decide +kernel
theorem dX8_flipOn_57 : dec mX8_flipOn 57 = .ok (.istore 7, 2) := by decide +kernel
theorem dX8_flipOn_59 : dec mX8_flipOn 59 = .ok (.aload_n 0, 1) := by decide +kernel
theorem dX8_flipOn_60 : dec mX8_flipOn 60 = .ok (.sipush 451, 3) := by decide +kernel
theorem dX8_flipOn_63 : dec mX8_flipOn 63 = .ok (.iload 4, 2) := by decide +kernel
theorem dX8_flipOn_65 : dec mX8_flipOn 65 = .ok (.iadd, 1) := by decide +kernel
theorem dX8_flipOn_66 : dec mX8_flipOn 66 = .ok (.iaload, 1) := by decide +kernel
theorem dX8_flipOn_67 : dec mX8_flipOn 67 = .ok (.istore 8, 2) := by decide +kernel
theorem dX8_flipOn_69 : dec mX8_flipOn 69 = .ok (.aload_n 0, 1) := by decide +kernel
theorem dX8_flipOn_70 : dec mX8_flipOn 70 = .ok (.bipush 115, 2) := by decide +kernel
theorem dX8_flipOn_72 : dec mX8_flipOn 72 = .ok (.iload 4, 2) := by decide +kernel
theorem dX8_flipOn_74 : dec mX8_flipOn 74 = .ok (.iadd, 1) := by decide +kernel
theorem dX8_flipOn_75 : dec mX8_flipOn 75 = .ok (.iconst 0, 1) := by decide +kernel
theorem dX8_flipOn_76 : dec mX8_flipOn 76 = .ok (.iastore, 1) := by decide +kernel
theorem dX8_flipOn_77 : dec mX8_flipOn 77 = .ok (.aload_n 0, 1) := by decide +kernel
theorem dX8_flipOn_78 : dec mX8_flipOn 78 = .ok (.sipush 227, 3) := by decide +kernel
theorem dX8_flipOn_81 : dec mX8_flipOn 81 = .ok (.iload 4, 2) := by decide +kernel
theorem dX8_flipOn_83 : dec mX8_flipOn 83 = .ok (.iadd, 1) := by decide +kernel
theorem dX8_flipOn_84 : dec mX8_flipOn 84 = .ok (.iconst 0, 1) := by decide +kernel
theorem dX8_flipOn_85 : dec mX8_flipOn 85 = .ok (.iastore, 1) := by decide +kernel
theorem dX8_flipOn_86 : dec mX8_flipOn 86 = .ok (.aload_n 0, 1) := by decide +kernel
theorem dX8_flipOn_87 : dec mX8_flipOn 87 = .ok (.sipush 339, 3) := by decide +kernel
theorem dX8_flipOn_90 : dec mX8_flipOn 90 = .ok (.iload 4, 2) := by decide +kernel
theorem dX8_flipOn_92 : dec mX8_flipOn 92 = .ok (.iadd, 1) := by decide +kernel
theorem dX8_flipOn_93 : dec mX8_flipOn 93 = .ok (.iconst 0, 1) := by decide +kernel
theorem dX8_flipOn_94 : dec mX8_flipOn 94 = .ok (.iastore, 1) := by decide +kernel
theorem dX8_flipOn_95 : dec mX8_flipOn 95 = .ok (.aload_n 0, 1) := by decide +kernel
theorem dX8_flipOn_96 : dec mX8_flipOn 96 = .ok (.sipush 451, 3) := by decide +kernel
theorem dX8_flipOn_99 : dec mX8_flipOn 99 = .ok (.iload 4, 2) := by decide +kernel
theorem dX8_flipOn_101 : dec mX8_flipOn 101 = .ok (.iadd, 1) := by decide +kernel
theorem dX8_flipOn_102 : dec mX8_flipOn 102 = .ok (.iconst 0, 1) := by decide +kernel
theorem dX8_flipOn_103 : dec mX8_flipOn 103 = .ok (.iastore, 1) := by decide +kernel
theorem dX8_flipOn_104 : dec mX8_flipOn 104 = .ok (.aload_n 0, 1) := by decide +kernel
theorem dX8_flipOn_105 : dec mX8_flipOn 105 = .ok (.bipush 115, 2) := by decide +kernel
theorem dX8_flipOn_107 : dec mX8_flipOn 107 = .ok (.iload_n 1, 1) := by decide +kernel
theorem dX8_flipOn_108 : dec mX8_flipOn 108 = .ok (.iadd, 1) := by decide +kernel
theorem dX8_flipOn_109 : dec mX8_flipOn 109 = .ok (.iload 6, 2) := by decide +kernel
theorem dX8_flipOn_111 : dec mX8_flipOn 111 = .ok (.iastore, 1) := by decide +kernel
theorem dX8_flipOn_112 : dec mX8_flipOn 112 = .ok (.aload_n 0, 1) := by decide +kernel
theorem dX8_flipOn_113 : dec mX8_flipOn 113 = .ok (.bipush 115, 2) := by decide +kernel
theorem dX8_flipOn_115 : dec mX8_flipOn 115 = .ok (.iload 5, 2) := by decide +kernel
theorem dX8_flipOn_117 : dec mX8_flipOn 117 = .ok (.iadd, 1) := by decide +kernel
theorem dX8_flipOn_118 : dec mX8_flipOn 118 = .ok (.iload 6, 2) := by decide +kernel
theorem dX8_flipOn_120 : dec mX8_flipOn 120 = .ok (.iastore, 1) := by decide +kernel
theorem dX8_flipOn_121 : dec mX8_flipOn 121 = .ok (.aload_n 0, 1) := by decide +kernel
theorem dX8_flipOn_122 : dec mX8_flipOn 122 = .ok (.sipush 451, 3) := by decide +kernel
theorem dX8_flipOn_125 : dec mX8_flipOn 125 = .ok (.iload 5, 2) := by decide +kernel
theorem dX8_flipOn_127 : dec mX8_flipOn 127 = .ok (.iadd, 1) := by decide +kernel
theorem dX8_flipOn_128 : dec mX8_flipOn 128 = .ok (.iload 8, 2) := by decide +kernel
theorem dX8_flipOn_130 : dec mX8_flipOn 130 = .ok (.iastore, 1) := by decide +kernel
theorem dX8_flipOn_131 : dec mX8_flipOn 131 = .ok (.aload_n 0, 1) := by decide +kernel
theorem dX8_flipOn_132 : dec mX8_flipOn 132 = .ok (.iload_n 1, 1) := by decide +kernel
theorem dX8_flipOn_133 : dec mX8_flipOn 133 = .ok (.aload_n 0, 1) := by decide +kernel
theorem dX8_flipOn_134 : dec mX8_flipOn 134 = .ok (.sipush 227, 3) := by decide +kernel
theorem dX8_flipOn_137 : dec mX8_flipOn 137 = .ok (.iload_n 1, 1) := by decide +kernel
theorem dX8_flipOn_138 : dec mX8_flipOn 138 = .ok (.iadd, 1) := by decide +kernel
theorem dX8_flipOn_139 : dec mX8_flipOn 139 = .ok (.iaload, 1) := by decide +kernel
theorem dX8_flipOn_140 : dec mX8_flipOn 140 = .ok (.invokestatic 100, 3) := by decide +kernel
theorem dX8_flipOn_143 : dec mX8_flipOn 143 = .ok (.aload_n 0, 1) := by decide +kernel
theorem dX8_flipOn_144 : dec mX8_flipOn 144 = .ok (.iload 5, 2) := by decide +kernel
theorem dX8_flipOn_146 : dec mX8_flipOn 146 = .ok (.iload 7, 2) := by decide +kernel
theorem dX8_flipOn_148 : dec mX8_flipOn 148 = .ok (.invokestatic 100, 3) := by decide +kernel
theorem dX8_flipOn_151 : dec mX8_flipOn 151 = .ok (.aload_n 0, 1) := by decide +kernel
theorem dX8_flipOn_152 : dec mX8_flipOn 152 = .ok (.iconst 2, 1) := by decide +kernel
theorem dX8_flipOn_153 : dec mX8_flipOn 153 = .ok (.dup2, 1) := by decide +kernel
theorem dX8_flipOn_154 : dec mX8_flipOn 154 = .ok (.iaload, 1) := by decide +kernel
theorem dX8_flipOn_155 : dec mX8_flipOn 155 = .ok (.iconst 1, 1) := by decide +kernel
theorem dX8_flipOn_156 : dec mX8_flipOn 156 = .ok (.iadd, 1) := by decide +kernel
theorem dX8_flipOn_157 : dec mX8_flipOn 157 = .ok (.iastore, 1) := by decide +kernel
theorem dX8_flipOn_158 : dec mX8_flipOn 158 = .ok (.iload_n 2, 1) := by decide +kernel
theorem dX8_flipOn_159 : dec mX8_flipOn 159 = .ok (.ireturn, 1) := by decide +kernel
theorem dX8_isFlip_0 : dec mX8_isFlip 0 = .ok (.aload_n 0, 1) := by decide +kernel
theorem dX8_isFlip_1 : dec mX8_isFlip 1 = .ok (.iload_n 1, 1) := by decide +kernel
theorem dX8_isFlip_2 : dec mX8_isFlip 2 = .ok (.invokestatic 91, 3) := by decide +kernel
theorem dX8_isFlip_5 : dec mX8_isFlip 5 = .ok (.iconst (-1), 1) := by decide +kernel
theorem dX8_isFlip_6 : dec mX8_isFlip 6 = .ok (.if_icmp .eq 29, 3) := by decide +kernel
theorem dX8_isFlip_9 : dec mX8_isFlip 9 = .ok (.aload_n 0, 1) := by decide +kernel
theorem dX8_isFlip_10 : dec mX8_isFlip 10 = .ok (.sipush 451, 3) := by decide +kernel
theorem dX8_isFlip_13 : dec mX8_isFlip 13 = .ok (.iload_n 1, 1) := by decide +kernel
theorem dX8_isFlip_14 : dec mX8_isFlip 14 = .ok (.iadd, 1) := by decide +kernel
theorem dX8_isFlip_15 : dec mX8_isFlip 15 = .ok (.iaload, 1) := by decide +kernel
theorem dX8_isFlip_16 : dec mX8_isFlip 16 = .ok (.aload_n 0, 1) := by decide +kernel
theorem dX8_isFlip_17 : dec mX8_isFlip 17 = .ok (.sipush 451, 3) := by decide +kernel
theorem dX8_isFlip_20 : dec mX8_isFlip 20 = .ok (.aload_n 0, 1) := by decide +kernel
theorem dX8_isFlip_21 : dec mX8_isFlip 21 = .ok (.iload_n 1, 1) := by decide +kernel
theorem dX8_isFlip_22 : dec mX8_isFlip 22 = .ok (.invokestatic 91, 3) := by decide +kernel
theorem dX8_isFlip_25 : dec mX8_isFlip 25 = .ok (.iadd, 1) := by decide +kernel
theorem dX8_isFlip_26 : dec mX8_isFlip 26 = .ok (.iaload, 1) := by decide +kernel
theorem dX8_isFlip_27 : dec mX8_isFlip 27 = .ok (.iadd, 1) := by decide +kernel
theorem dX8_isFlip_28 : dec mX8_isFlip 28 = .ok (.ifCond .ne 7, 3) := by decide +kernel
theorem dX8_isFlip_31 : dec mX8_isFlip 31 = .ok (.iconst 1, 1) := by decide +kernel
theorem dX8_isFlip_32 : dec mX8_isFlip 32 = .ok (.goto 4, 3) := by decide +kernel
theorem dX8_isFlip_35 : dec mX8_isFlip 35 = .ok (.iconst 0, 1) := by decide +kernel
theorem dX8_isFlip_36 : dec mX8_isFlip 36 = .ok (.ireturn, 1) := by decide +kernel
theorem dX8_offer_0 : dec mX8_offer 0 = .ok (.aload_n 0, 1) := by decide +kernel
theorem dX8_offer_1 : dec mX8_offer 1 = .ok (.getfield 106, 3) := by decide +kernel
theorem dX8_offer_4 : dec mX8_offer 4 = .ok (.iconst (-1), 1) := by decide +kernel
theorem dX8_offer_5 : dec mX8_offer 5 = .ok (.if_icmp .eq 11, 3) := by decide +kernel
theorem dX8_offer_8 : dec mX8_offer 8 = .ok (.iload_n 2, 1) := by decide +kernel
theorem dX8_offer_9 : dec mX8_offer 9 = .ok (.aload_n 0, 1) := by decide +kernel
theorem dX8_offer_10 : dec mX8_offer 10 = .ok (.getfield 109, 3) := by decide +kernel
theorem dX8_offer_13 : dec mX8_offer 13 = .ok (.if_icmp .le 13, 3) := by decide +kernel
theorem dX8_offer_16 : dec mX8_offer 16 = .ok (.aload_n 0, 1) := by decide +kernel
theorem dX8_offer_17 : dec mX8_offer 17 = .ok (.iload_n 1, 1) := by decide +kernel
theorem dX8_offer_18 : dec mX8_offer 18 = .ok (.putfield 106, 3) := by decide +kernel
theorem dX8_offer_21 : dec mX8_offer 21 = .ok (.aload_n 0, 1) := by decide +kernel
theorem dX8_offer_22 : dec mX8_offer 22 = .ok (.iload_n 2, 1) := by decide +kernel
theorem dX8_offer_23 : dec mX8_offer 23 = .ok (.putfield 109, 3) := by decide +kernel
theorem dX8_offer_26 : dec mX8_offer 26 = .ok (.return_, 1) := by decide +kernel
theorem dX8_find_0 : dec mX8_find 0 = .ok (.aload_n 0, 1) := by decide +kernel
theorem dX8_find_1 : dec mX8_find 1 = .ok (.iconst (-1), 1) := by decide +kernel
theorem dX8_find_2 : dec mX8_find 2 = .ok (.putfield 106, 3) := by decide +kernel
theorem dX8_find_5 : dec mX8_find 5 = .ok (.aload_n 0, 1) := by decide +kernel
theorem dX8_find_6 : dec mX8_find 6 = .ok (.iconst 0, 1) := by decide +kernel
theorem dX8_find_7 : dec mX8_find 7 = .ok (.putfield 109, 3) := by decide +kernel
theorem dX8_find_10 : dec mX8_find 10 = .ok (.iconst 0, 1) := by decide +kernel
theorem dX8_find_11 : dec mX8_find 11 = .ok (.istore_n 2, 1) := by decide +kernel
theorem dX8_find_12 : dec mX8_find 12 = .ok (.iconst 0, 1) := by decide +kernel
theorem dX8_find_13 : dec mX8_find 13 = .ok (.istore_n 3, 1) := by decide +kernel
theorem dX8_find_14 : dec mX8_find 14 = .ok (.iload_n 3, 1) := by decide +kernel
theorem dX8_find_15 : dec mX8_find 15 = .ok (.aload_n 1, 1) := by decide +kernel
theorem dX8_find_16 : dec mX8_find 16 = .ok (.invokestatic 47, 3) := by decide +kernel
theorem dX8_find_19 : dec mX8_find 19 = .ok (.if_icmp .ge 41, 3) := by decide +kernel
theorem dX8_find_22 : dec mX8_find 22 = .ok (.aload_n 1, 1) := by decide +kernel
theorem dX8_find_23 : dec mX8_find 23 = .ok (.bipush 115, 2) := by decide +kernel
theorem dX8_find_25 : dec mX8_find 25 = .ok (.iload_n 3, 1) := by decide +kernel
theorem dX8_find_26 : dec mX8_find 26 = .ok (.iadd, 1) := by decide +kernel
theorem dX8_find_27 : dec mX8_find 27 = .ok (.iaload, 1) := by decide +kernel
theorem dX8_find_28 : dec mX8_find 28 = .ok (.ifCond .le 26, 3) := by decide +kernel
theorem dX8_find_31 : dec mX8_find 31 = .ok (.aload_n 1, 1) := by decide +kernel
theorem dX8_find_32 : dec mX8_find 32 = .ok (.sipush 451, 3) := by decide +kernel
theorem dX8_find_35 : dec mX8_find 35 = .ok (.iload_n 3, 1) := by decide +kernel
theorem dX8_find_36 : dec mX8_find 36 = .ok (.iadd, 1) := by decide +kernel
theorem dX8_find_37 : dec mX8_find 37 = .ok (.iaload, 1) := by decide +kernel
theorem dX8_find_38 : dec mX8_find 38 = .ok (.ifCond .ne 13, 3) := by decide +kernel
theorem dX8_find_41 : dec mX8_find 41 = .ok (.aload_n 0, 1) := by decide +kernel
theorem dX8_find_42 : dec mX8_find 42 = .ok (.iload_n 2, 1) := by decide +kernel
theorem dX8_find_43 : dec mX8_find 43 = .ok (.aload_n 1, 1) := by decide +kernel
theorem dX8_find_44 : dec mX8_find 44 = .ok (.iload_n 3, 1) := by decide +kernel
theorem dX8_find_45 : dec mX8_find 45 = .ok (.invokestatic 94, 3) := by decide +kernel
theorem dX8_find_48 : dec mX8_find 48 = .ok (.invokevirtual 112, 3) := by decide +kernel
theorem dX8_find_51 : dec mX8_find 51 = .ok (.iinc 2 1, 3) := by decide +kernel
theorem dX8_find_54 : dec mX8_find 54 = .ok (.iinc 3 1, 3) := by decide +kernel
theorem dX8_find_57 : dec mX8_find 57 = .ok (.goto (-43), 3) := by decide +kernel
theorem dX8_find_60 : dec mX8_find 60 = .ok (.iconst 0, 1) := by decide +kernel
theorem dX8_find_61 : dec mX8_find 61 = .ok (.istore_n 2, 1) := by decide +kernel
theorem dX8_find_62 : dec mX8_find 62 = .ok (.iconst 0, 1) := by decide +kernel
theorem dX8_find_63 : dec mX8_find 63 = .ok (.istore_n 3, 1) := by decide +kernel
theorem dX8_find_64 : dec mX8_find 64 = .ok (.iload_n 3, 1) := by decide +kernel
theorem dX8_find_65 : dec mX8_find 65 = .ok (.aload_n 1, 1) := by decide +kernel
theorem dX8_find_66 : dec mX8_find 66 = .ok (.invokestatic 47, 3) := by decide +kernel
theorem dX8_find_69 : dec mX8_find 69 = .ok (.if_icmp .ge 28, 3) := by decide +kernel
theorem dX8_find_72 : dec mX8_find 72 = .ok (.aload_n 1, 1) := by decide +kernel
theorem dX8_find_73 : dec mX8_find 73 = .ok (.bipush 115, 2) := by decide +kernel
theorem dX8_find_75 : dec mX8_find 75 = .ok (.iload_n 3, 1) := by decide +kernel
theorem dX8_find_76 : dec mX8_find 76 = .ok (.iadd, 1) := by decide +kernel
theorem dX8_find_77 : dec mX8_find 77 = .ok (.iaload, 1) := by decide +kernel
theorem dX8_find_78 : dec mX8_find 78 = .ok (.ifCond .le 13, 3) := by decide +kernel
theorem dX8_find_81 : dec mX8_find 81 = .ok (.aload_n 0, 1) := by decide +kernel
theorem dX8_find_82 : dec mX8_find 82 = .ok (.aload_n 1, 1) := by decide +kernel
theorem dX8_find_83 : dec mX8_find 83 = .ok (.iload_n 3, 1) := by decide +kernel
theorem dX8_find_84 : dec mX8_find 84 = .ok (.iload_n 2, 1) := by decide +kernel
theorem dX8_find_85 : dec mX8_find 85 = .ok (.invokevirtual 116, 3) := by decide +kernel
theorem dX8_find_88 : dec mX8_find 88 = .ok (.iinc 2 1, 3) := by decide +kernel
theorem dX8_find_91 : dec mX8_find 91 = .ok (.iinc 3 1, 3) := by decide +kernel
theorem dX8_find_94 : dec mX8_find 94 = .ok (.goto (-30), 3) := by decide +kernel
theorem dX8_find_97 : dec mX8_find 97 = .ok (.iconst 0, 1) := by decide +kernel
theorem dX8_find_98 : dec mX8_find 98 = .ok (.istore_n 3, 1) := by decide +kernel
theorem dX8_find_99 : dec mX8_find 99 = .ok (.iload_n 3, 1) := by decide +kernel
theorem dX8_find_100 : dec mX8_find 100 = .ok (.aload_n 1, 1) := by decide +kernel
theorem dX8_find_101 : dec mX8_find 101 = .ok (.invokestatic 47, 3) := by decide +kernel
theorem dX8_find_104 : dec mX8_find 104 = .ok (.if_icmp .ge 31, 3) := by decide +kernel
theorem dX8_find_107 : dec mX8_find 107 = .ok (.aload_n 1, 1) := by decide +kernel
theorem dX8_find_108 : dec mX8_find 108 = .ok (.iload_n 3, 1) := by decide +kernel
theorem dX8_find_109 : dec mX8_find 109 = .ok (.invokestatic 119, 3) := by decide +kernel
theorem dX8_find_112 : dec mX8_find 112 = .ok (.ifCond .eq 17, 3) := by decide +kernel
theorem dX8_find_115 : dec mX8_find 115 = .ok (.aload_n 0, 1) := by decide +kernel
theorem dX8_find_116 : dec mX8_find 116 = .ok (.sipush 20000, 3) := by decide +kernel
theorem dX8_find_119 : dec mX8_find 119 = .ok (.iload_n 3, 1) := by decide +kernel
theorem dX8_find_120 : dec mX8_find 120 = .ok (.iadd, 1) := by decide +kernel
theorem dX8_find_121 : dec mX8_find 121 = .ok (.aload_n 1, 1) := by decide +kernel
theorem dX8_find_122 : dec mX8_find 122 = .ok (.iload_n 3, 1) := by decide +kernel
theorem dX8_find_123 : dec mX8_find 123 = .ok (.invokestatic 103, 3) := by decide +kernel
theorem dX8_find_126 : dec mX8_find 126 = .ok (.invokevirtual 112, 3) := by decide +kernel
theorem dX8_find_129 : dec mX8_find 129 = .ok (.iinc 3 1, 3) := by decide +kernel
theorem dX8_find_132 : dec mX8_find 132 = .ok (.goto (-33), 3) := by decide +kernel
theorem dX8_find_135 : dec mX8_find 135 = .ok (.return_, 1) := by decide +kernel
theorem dX8_findSwaps_0 : dec mX8_findSwaps 0 = .ok (.iload_n 3, 1) := by decide +kernel
theorem dX8_findSwaps_1 : dec mX8_findSwaps 1 = .ok (.istore 4, 2) := by decide +kernel
theorem dX8_findSwaps_3 : dec mX8_findSwaps 3 = .ok (.iload_n 2, 1) := by decide +kernel
theorem dX8_findSwaps_4 : dec mX8_findSwaps 4 = .ok (.iconst 1, 1) := by decide +kernel
theorem dX8_findSwaps_5 : dec mX8_findSwaps 5 = .ok (.iadd, 1) := by decide +kernel
theorem dX8_findSwaps_6 : dec mX8_findSwaps 6 = .ok (.istore 5, 2) := by decide +kernel
theorem dX8_findSwaps_8 : dec mX8_findSwaps 8 = .ok (.iload 5, 2) := by decide +kernel
theorem dX8_findSwaps_10 : dec mX8_findSwaps 10 = .ok (.aload_n 1, 1) := by decide +kernel
theorem dX8_findSwaps_11 : dec mX8_findSwaps 11 = .ok (.invokestatic 47, 3) := by decide +kernel
theorem dX8_findSwaps_14 : dec mX8_findSwaps 14 = .ok (.if_icmp .ge 65, 3) := by decide +kernel
theorem dX8_findSwaps_17 : dec mX8_findSwaps 17 = .ok (.aload_n 1, 1) := by decide +kernel
theorem dX8_findSwaps_18 : dec mX8_findSwaps 18 = .ok (.sipush 451, 3) := by decide +kernel
theorem dX8_findSwaps_21 : dec mX8_findSwaps 21 = .ok (.iload_n 2, 1) := by decide +kernel
theorem dX8_findSwaps_22 : dec mX8_findSwaps 22 = .ok (.iadd, 1) := by decide +kernel
theorem dX8_findSwaps_23 : dec mX8_findSwaps 23 = .ok (.iaload, 1) := by decide +kernel
theorem dX8_findSwaps_24 : dec mX8_findSwaps 24 = .ok (.ifCond .ne 55, 3) := by decide +kernel
theorem dX8_findSwaps_27 : dec mX8_findSwaps 27 = .ok (.aload_n 1, 1) := by decide +kernel
theorem dX8_findSwaps_28 : dec mX8_findSwaps 28 = .ok (.bipush 115, 2) := by decide +kernel
theorem dX8_findSwaps_30 : dec mX8_findSwaps 30 = .ok (.iload 5, 2) := by decide +kernel
theorem dX8_findSwaps_32 : dec mX8_findSwaps 32 = .ok (.iadd, 1) := by decide +kernel
theorem dX8_findSwaps_33 : dec mX8_findSwaps 33 = .ok (.iaload, 1) := by decide +kernel
theorem dX8_findSwaps_34 : dec mX8_findSwaps 34 = .ok (.ifCond .le 39, 3) := by decide +kernel
theorem dX8_findSwaps_37 : dec mX8_findSwaps 37 = .ok (.iinc 4 1, 3) := by decide +kernel
theorem dX8_findSwaps_40 : dec mX8_findSwaps 40 = .ok (.aload_n 1, 1) := by decide +kernel
theorem dX8_findSwaps_41 : dec mX8_findSwaps 41 = .ok (.sipush 451, 3) := by decide +kernel
theorem dX8_findSwaps_44 : dec mX8_findSwaps 44 = .ok (.iload 5, 2) := by decide +kernel
theorem dX8_findSwaps_46 : dec mX8_findSwaps 46 = .ok (.iadd, 1) := by decide +kernel
theorem dX8_findSwaps_47 : dec mX8_findSwaps 47 = .ok (.iaload, 1) := by decide +kernel
theorem dX8_findSwaps_48 : dec mX8_findSwaps 48 = .ok (.ifCond .ne 25, 3) := by decide +kernel
theorem dX8_findSwaps_51 : dec mX8_findSwaps 51 = .ok (.aload_n 0, 1) := by decide +kernel
theorem dX8_findSwaps_52 : dec mX8_findSwaps 52 = .ok (.sipush 10000, 3) := by decide +kernel
theorem dX8_findSwaps_55 : dec mX8_findSwaps 55 = .ok (.bipush 100, 2) := by decide +kernel
theorem dX8_findSwaps_57 : dec mX8_findSwaps 57 = .ok (.iload_n 3, 1) := by decide +kernel
theorem dX8_findSwaps_58 : dec mX8_findSwaps 58 = .ok (.imul, 1) := by decide +kernel
theorem dX8_findSwaps_59 : dec mX8_findSwaps 59 = .ok (.iadd, 1) := by decide +kernel
theorem dX8_findSwaps_60 : dec mX8_findSwaps 60 = .ok (.iload 4, 2) := by decide +kernel
theorem dX8_findSwaps_62 : dec mX8_findSwaps 62 = .ok (.iadd, 1) := by decide +kernel
theorem dX8_findSwaps_63 : dec mX8_findSwaps 63 = .ok (.aload_n 1, 1) := by decide +kernel
theorem dX8_findSwaps_64 : dec mX8_findSwaps 64 = .ok (.iload_n 2, 1) := by decide +kernel
theorem dX8_findSwaps_65 : dec mX8_findSwaps 65 = .ok (.iload 5, 2) := by decide +kernel
theorem dX8_findSwaps_67 : dec mX8_findSwaps 67 = .ok (.invokestatic 97, 3) := by decide +kernel
theorem dX8_findSwaps_70 : dec mX8_findSwaps 70 = .ok (.invokevirtual 112, 3) := by decide +kernel
theorem dX8_findSwaps_73 : dec mX8_findSwaps 73 = .ok (.iinc 5 1, 3) := by decide +kernel
theorem dX8_findSwaps_76 : dec mX8_findSwaps 76 = .ok (.goto (-68), 3) := by decide +kernel
theorem dX8_findSwaps_79 : dec mX8_findSwaps 79 = .ok (.return_, 1) := by decide +kernel
theorem dX8_change_0 : dec mX8_change 0 = .ok (.iload_n 1, 1) := by decide +kernel
theorem dX8_change_1 : dec mX8_change 1 = .ok (.sipush 10000, 3) := by decide +kernel
theorem dX8_change_4 : dec mX8_change 4 = .ok (.irem, 1) := by decide +kernel
theorem dX8_change_5 : dec mX8_change 5 = .ok (.istore_n 2, 1) := by decide +kernel
theorem dX8_change_6 : dec mX8_change 6 = .ok (.iload_n 1, 1) := by decide +kernel
theorem dX8_change_7 : dec mX8_change 7 = .ok (.sipush 10000, 3) := by decide +kernel
theorem dX8_change_10 : dec mX8_change 10 = .ok (.if_icmp .ge 16, 3) := by decide +kernel
theorem dX8_change_13 : dec mX8_change 13 = .ok (.aload_n 0, 1) := by decide +kernel
theorem dX8_change_14 : dec mX8_change 14 = .ok (.aload_n 0, 1) := by decide +kernel
theorem dX8_change_15 : dec mX8_change 15 = .ok (.iload_n 2, 1) := by decide +kernel
theorem dX8_change_16 : dec mX8_change 16 = .ok (.invokestatic 123, 3) := by decide +kernel
theorem dX8_change_19 : dec mX8_change 19 = .ok (.invokestatic 126, 3) := by decide +kernel
theorem dX8_change_22 : dec mX8_change 22 = .ok (.pop, 1) := by decide +kernel
theorem dX8_change_23 : dec mX8_change 23 = .ok (.goto 40, 3) := by decide +kernel
theorem dX8_change_26 : dec mX8_change 26 = .ok (.iload_n 1, 1) := by decide +kernel
theorem dX8_change_27 : dec mX8_change 27 = .ok (.sipush 20000, 3) := by decide +kernel
theorem dX8_change_30 : dec mX8_change 30 = .ok (.if_icmp .ge 27, 3) := by decide +kernel
theorem dX8_change_33 : dec mX8_change 33 = .ok (.aload_n 0, 1) := by decide +kernel
theorem dX8_change_34 : dec mX8_change 34 = .ok (.aload_n 0, 1) := by decide +kernel
theorem dX8_change_35 : dec mX8_change 35 = .ok (.iload_n 2, 1) := by decide +kernel
theorem dX8_change_36 : dec mX8_change 36 = .ok (.bipush 100, 2) := by decide +kernel
theorem dX8_change_38 : dec mX8_change 38 = .ok (.idiv, 1) := by decide +kernel
theorem dX8_change_39 : dec mX8_change 39 = .ok (.invokestatic 123, 3) := by decide +kernel
theorem dX8_change_42 : dec mX8_change 42 = .ok (.aload_n 0, 1) := by decide +kernel
theorem dX8_change_43 : dec mX8_change 43 = .ok (.iload_n 2, 1) := by decide +kernel
theorem dX8_change_44 : dec mX8_change 44 = .ok (.bipush 100, 2) := by decide +kernel
theorem dX8_change_46 : dec mX8_change 46 = .ok (.irem, 1) := by decide +kernel
theorem dX8_change_47 : dec mX8_change 47 = .ok (.invokestatic 123, 3) := by decide +kernel
theorem dX8_change_50 : dec mX8_change 50 = .ok (.invokestatic 129, 3) := by decide +kernel
theorem dX8_change_53 : dec mX8_change 53 = .ok (.pop, 1) := by decide +kernel
theorem dX8_change_54 : dec mX8_change 54 = .ok (.goto 9, 3) := by decide +kernel
theorem dX8_change_57 : dec mX8_change 57 = .ok (.aload_n 0, 1) := by decide +kernel
theorem dX8_change_58 : dec mX8_change 58 = .ok (.iload_n 2, 1) := by decide +kernel
theorem dX8_change_59 : dec mX8_change 59 = .ok (.invokestatic 132, 3) := by decide +kernel
theorem dX8_change_62 : dec mX8_change 62 = .ok (.pop, 1) := by decide +kernel
theorem dX8_change_63 : dec mX8_change 63 = .ok (.return_, 1) := by decide +kernel
theorem dX8_improveOn_0 : dec mX8_improveOn 0 = .ok (.iconst 0, 1) := by decide +kernel
theorem dX8_improveOn_1 : dec mX8_improveOn 1 = .ok (.istore_n 3, 1) := by decide +kernel
theorem dX8_improveOn_2 : dec mX8_improveOn 2 = .ok (.aload_n 0, 1) := by decide +kernel
theorem dX8_improveOn_3 : dec mX8_improveOn 3 = .ok (.iconst 0, 1) := by decide +kernel
theorem dX8_improveOn_4 : dec mX8_improveOn 4 = .ok (.putfield 135, 3) := by decide +kernel
theorem dX8_improveOn_7 : dec mX8_improveOn 7 = .ok (.aload_n 0, 1) := by decide +kernel
theorem dX8_improveOn_8 : dec mX8_improveOn 8 = .ok (.aload_n 1, 1) := by decide +kernel
theorem dX8_improveOn_9 : dec mX8_improveOn 9 = .ok (.invokevirtual 138, 3) := by decide +kernel
theorem dX8_improveOn_12 : dec mX8_improveOn 12 = .ok (.aload_n 0, 1) := by decide +kernel
theorem dX8_improveOn_13 : dec mX8_improveOn 13 = .ok (.getfield 135, 3) := by decide +kernel
theorem dX8_improveOn_16 : dec mX8_improveOn 16 = .ok (.iload_n 2, 1) := by decide +kernel
theorem dX8_improveOn_17 : dec mX8_improveOn 17 = .ok (.if_icmp .ge 51, 3) := by decide +kernel
theorem dX8_improveOn_20 : dec mX8_improveOn 20 = .ok (.aload_n 0, 1) := by decide +kernel
theorem dX8_improveOn_21 : dec mX8_improveOn 21 = .ok (.getfield 106, 3) := by decide +kernel
theorem dX8_improveOn_24 : dec mX8_improveOn 24 = .ok (.iconst (-1), 1) := by decide +kernel
theorem dX8_improveOn_25 : dec mX8_improveOn 25 = .ok (.if_icmp .eq 43, 3) := by decide +kernel
theorem dX8_improveOn_28 : dec mX8_improveOn 28 = .ok (.aload_n 0, 1) := by decide +kernel
theorem dX8_improveOn_29 : dec mX8_improveOn 29 = .ok (.getfield 109, 3) := by decide +kernel
theorem dX8_improveOn_32 : dec mX8_improveOn 32 = .ok (.ifCond .le 36, 3) := by decide +kernel
theorem dX8_improveOn_35 : dec mX8_improveOn 35 = .ok (.iload_n 3, 1) := by decide +kernel
theorem dX8_improveOn_36 : dec mX8_improveOn 36 = .ok (.aload_n 0, 1) := by decide +kernel
theorem dX8_improveOn_37 : dec mX8_improveOn 37 = .ok (.getfield 109, 3) := by decide +kernel
theorem dX8_improveOn_40 : dec mX8_improveOn 40 = .ok (.iadd, 1) := by decide +kernel
theorem dX8_improveOn_41 : dec mX8_improveOn 41 = .ok (.istore_n 3, 1) := by decide +kernel
theorem dX8_improveOn_42 : dec mX8_improveOn 42 = .ok (.aload_n 1, 1) := by decide +kernel
theorem dX8_improveOn_43 : dec mX8_improveOn 43 = .ok (.aload_n 0, 1) := by decide +kernel
theorem dX8_improveOn_44 : dec mX8_improveOn 44 = .ok (.getfield 106, 3) := by decide +kernel
theorem dX8_improveOn_47 : dec mX8_improveOn 47 = .ok (.invokestatic 142, 3) := by decide +kernel
theorem dX8_improveOn_50 : dec mX8_improveOn 50 = .ok (.aload_n 0, 1) := by decide +kernel
theorem dX8_improveOn_51 : dec mX8_improveOn 51 = .ok (.dup, 1) := by decide +kernel
theorem dX8_improveOn_52 : dec mX8_improveOn 52 = .ok (.getfield 135, 3) := by decide +kernel
theorem dX8_improveOn_55 : dec mX8_improveOn 55 = .ok (.iconst 1, 1) := by decide +kernel
theorem dX8_improveOn_56 : dec mX8_improveOn 56 = .ok (.iadd, 1) := by decide +kernel
theorem dX8_improveOn_57 : dec mX8_improveOn 57 = .ok (.putfield 135, 3) := by decide +kernel
theorem dX8_improveOn_60 : dec mX8_improveOn 60 = .ok (.aload_n 0, 1) := by decide +kernel
theorem dX8_improveOn_61 : dec mX8_improveOn 61 = .ok (.aload_n 1, 1) := by decide +kernel
theorem dX8_improveOn_62 : dec mX8_improveOn 62 = .ok (.invokevirtual 138, 3) := by decide +kernel
theorem dX8_improveOn_65 : dec mX8_improveOn 65 = .ok (.goto (-53), 3) := by decide +kernel
theorem dX8_improveOn_68 : dec mX8_improveOn 68 = .ok (.iload_n 3, 1) := by decide +kernel
theorem dX8_improveOn_69 : dec mX8_improveOn 69 = .ok (.ireturn, 1) := by decide +kernel
theorem dX8_layAll_0 : dec mX8_layAll 0 = .ok (.aload_n 1, 1) := by decide +kernel
theorem dX8_layAll_1 : dec mX8_layAll 1 = .ok (.invokestatic 146, 3) := by decide +kernel
theorem dX8_layAll_4 : dec mX8_layAll 4 = .ok (.istore_n 2, 1) := by decide +kernel
theorem dX8_layAll_5 : dec mX8_layAll 5 = .ok (.iconst 0, 1) := by decide +kernel
theorem dX8_layAll_6 : dec mX8_layAll 6 = .ok (.istore_n 3, 1) := by decide +kernel
theorem dX8_layAll_7 : dec mX8_layAll 7 = .ok (.iload_n 3, 1) := by decide +kernel
theorem dX8_layAll_8 : dec mX8_layAll 8 = .ok (.aload_n 1, 1) := by decide +kernel
theorem dX8_layAll_9 : dec mX8_layAll 9 = .ok (.invokestatic 54, 3) := by decide +kernel
theorem dX8_layAll_12 : dec mX8_layAll 12 = .ok (.if_icmp .ge 16, 3) := by decide +kernel
theorem dX8_layAll_15 : dec mX8_layAll 15 = .ok (.aload_n 0, 1) := by decide +kernel
theorem dX8_layAll_16 : dec mX8_layAll 16 = .ok (.getfield 29, 3) := by decide +kernel
theorem dX8_layAll_19 : dec mX8_layAll 19 = .ok (.iload_n 3, 1) := by decide +kernel
theorem dX8_layAll_20 : dec mX8_layAll 20 = .ok (.iconst 0, 1) := by decide +kernel
theorem dX8_layAll_21 : dec mX8_layAll 21 = .ok (.bastore, 1) := by decide +kernel
theorem dX8_layAll_22 : dec mX8_layAll 22 = .ok (.iinc 3 1, 3) := by decide +kernel
theorem dX8_layAll_25 : dec mX8_layAll 25 = .ok (.goto (-18), 3) := by decide +kernel
theorem dX8_layAll_28 : dec mX8_layAll 28 = .ok (.iconst 0, 1) := by decide +kernel
theorem dX8_layAll_29 : dec mX8_layAll 29 = .ok (.istore_n 3, 1) := by decide +kernel
theorem dX8_layAll_30 : dec mX8_layAll 30 = .ok (.iload_n 3, 1) := by decide +kernel
theorem dX8_layAll_31 : dec mX8_layAll 31 = .ok (.aload_n 1, 1) := by decide +kernel
theorem dX8_layAll_32 : dec mX8_layAll 32 = .ok (.invokestatic 47, 3) := by decide +kernel
theorem dX8_layAll_35 : dec mX8_layAll 35 = .ok (.if_icmp .ge 41, 3) := by decide +kernel
theorem dX8_layAll_38 : dec mX8_layAll 38 = .ok (.aload_n 1, 1) := by decide +kernel
theorem dX8_layAll_39 : dec mX8_layAll 39 = .ok (.bipush 115, 2) := by decide +kernel
theorem dX8_layAll_41 : dec mX8_layAll 41 = .ok (.iload_n 3, 1) := by decide +kernel
theorem dX8_layAll_42 : dec mX8_layAll 42 = .ok (.iadd, 1) := by decide +kernel
theorem dX8_layAll_43 : dec mX8_layAll 43 = .ok (.iaload, 1) := by decide +kernel
theorem dX8_layAll_44 : dec mX8_layAll 44 = .ok (.ifCond .le 26, 3) := by decide +kernel
theorem dX8_layAll_47 : dec mX8_layAll 47 = .ok (.aload_n 1, 1) := by decide +kernel
theorem dX8_layAll_48 : dec mX8_layAll 48 = .ok (.sipush 451, 3) := by decide +kernel
theorem dX8_layAll_51 : dec mX8_layAll 51 = .ok (.iload_n 3, 1) := by decide +kernel
theorem dX8_layAll_52 : dec mX8_layAll 52 = .ok (.iadd, 1) := by decide +kernel
theorem dX8_layAll_53 : dec mX8_layAll 53 = .ok (.iaload, 1) := by decide +kernel
theorem dX8_layAll_54 : dec mX8_layAll 54 = .ok (.ifCond .ne 16, 3) := by decide +kernel
theorem dX8_layAll_57 : dec mX8_layAll 57 = .ok (.aload_n 0, 1) := by decide +kernel
theorem dX8_layAll_58 : dec mX8_layAll 58 = .ok (.getfield 29, 3) := by decide +kernel
theorem dX8_layAll_61 : dec mX8_layAll 61 = .ok (.aload_n 1, 1) := by decide +kernel
theorem dX8_layAll_62 : dec mX8_layAll 62 = .ok (.sipush 227, 3) := by decide +kernel
theorem dX8_layAll_65 : dec mX8_layAll 65 = .ok (.iload_n 3, 1) := by decide +kernel
theorem dX8_layAll_66 : dec mX8_layAll 66 = .ok (.iadd, 1) := by decide +kernel
theorem dX8_layAll_67 : dec mX8_layAll 67 = .ok (.iaload, 1) := by decide +kernel
theorem dX8_layAll_68 : dec mX8_layAll 68 = .ok (.iconst 1, 1) := by decide +kernel
theorem dX8_layAll_69 : dec mX8_layAll 69 = .ok (.bastore, 1) := by decide +kernel
theorem dX8_layAll_70 : dec mX8_layAll 70 = .ok (.iinc 3 1, 3) := by decide +kernel
theorem dX8_layAll_73 : dec mX8_layAll 73 = .ok (.goto (-43), 3) := by decide +kernel
theorem dX8_layAll_76 : dec mX8_layAll 76 = .ok (.iconst 0, 1) := by decide +kernel
theorem dX8_layAll_77 : dec mX8_layAll 77 = .ok (.istore_n 3, 1) := by decide +kernel
theorem dX8_layAll_78 : dec mX8_layAll 78 = .ok (.iload_n 3, 1) := by decide +kernel
theorem dX8_layAll_79 : dec mX8_layAll 79 = .ok (.aload_n 1, 1) := by decide +kernel
theorem dX8_layAll_80 : dec mX8_layAll 80 = .ok (.invokestatic 47, 3) := by decide +kernel
theorem dX8_layAll_83 : dec mX8_layAll 83 = .ok (.if_icmp .ge 153, 3) := by decide +kernel
theorem dX8_layAll_86 : dec mX8_layAll 86 = .ok (.aload_n 1, 1) := by decide +kernel
theorem dX8_layAll_87 : dec mX8_layAll 87 = .ok (.bipush 115, 2) := by decide +kernel
theorem dX8_layAll_89 : dec mX8_layAll 89 = .ok (.iload_n 3, 1) := by decide +kernel
theorem dX8_layAll_90 : dec mX8_layAll 90 = .ok (.iadd, 1) := by decide +kernel
theorem dX8_layAll_91 : dec mX8_layAll 91 = .ok (.iaload, 1) := by decide +kernel
theorem dX8_layAll_92 : dec mX8_layAll 92 = .ok (.ifCond .le 138, 3) := by decide +kernel
theorem dX8_layAll_95 : dec mX8_layAll 95 = .ok (.aload_n 1, 1) := by decide +kernel
theorem dX8_layAll_96 : dec mX8_layAll 96 = .ok (.sipush 451, 3) := by decide +kernel
theorem dX8_layAll_99 : dec mX8_layAll 99 = .ok (.iload_n 3, 1) := by decide +kernel
theorem dX8_layAll_100 : dec mX8_layAll 100 = .ok (.iadd, 1) := by decide +kernel
theorem dX8_layAll_101 : dec mX8_layAll 101 = .ok (.iaload, 1) := by decide +kernel
theorem dX8_layAll_102 : dec mX8_layAll 102 = .ok (.ifCond .ne 128, 3) := by decide +kernel
theorem dX8_layAll_105 : dec mX8_layAll 105 = .ok (.iconst (-1), 1) := by decide +kernel
theorem dX8_layAll_106 : dec mX8_layAll 106 = .ok (.istore 4, 2) := by decide +kernel
theorem dX8_layAll_108 : dec mX8_layAll 108 = .ok (.iconst 0, 1) := by decide +kernel
theorem dX8_layAll_109 : dec mX8_layAll 109 = .ok (.istore 5, 2) := by decide +kernel
theorem dX8_layAll_111 : dec mX8_layAll 111 = .ok (.iconst 0, 1) := by decide +kernel
theorem dX8_layAll_112 : dec mX8_layAll 112 = .ok (.istore 6, 2) := by decide +kernel
theorem dX8_layAll_114 : dec mX8_layAll 114 = .ok (.iload 6, 2) := by decide +kernel
theorem dX8_layAll_116 : dec mX8_layAll 116 = .ok (.aload_n 1, 1) := by decide +kernel
theorem dX8_layAll_117 : dec mX8_layAll 117 = .ok (.invokestatic 54, 3) := by decide +kernel
theorem dX8_layAll_120 : dec mX8_layAll 120 = .ok (.if_icmp .ge 95, 3) := by decide +kernel
theorem dX8_layAll_123 : dec mX8_layAll 123 = .ok (.aload_n 0, 1) := by decide +kernel
theorem dX8_layAll_124 : dec mX8_layAll 124 = .ok (.getfield 29, 3) := by decide +kernel
theorem dX8_layAll_127 : dec mX8_layAll 127 = .ok (.iload 6, 2) := by decide +kernel
theorem dX8_layAll_129 : dec mX8_layAll 129 = .ok (.baload, 1) := by decide +kernel
theorem dX8_layAll_130 : dec mX8_layAll 130 = .ok (.ifCond .eq 18, 3) := by decide +kernel
theorem dX8_layAll_133 : dec mX8_layAll 133 = .ok (.aload_n 1, 1) := by decide +kernel
theorem dX8_layAll_134 : dec mX8_layAll 134 = .ok (.iload_n 3, 1) := by decide +kernel
theorem dX8_layAll_135 : dec mX8_layAll 135 = .ok (.aload_n 1, 1) := by decide +kernel
theorem dX8_layAll_136 : dec mX8_layAll 136 = .ok (.iload_n 3, 1) := by decide +kernel
theorem dX8_layAll_137 : dec mX8_layAll 137 = .ok (.invokestatic 82, 3) := by decide +kernel
theorem dX8_layAll_140 : dec mX8_layAll 140 = .ok (.iload 6, 2) := by decide +kernel
theorem dX8_layAll_142 : dec mX8_layAll 142 = .ok (.invokestatic 88, 3) := by decide +kernel
theorem dX8_layAll_145 : dec mX8_layAll 145 = .ok (.goto 4, 3) := by decide +kernel
theorem dX8_layAll_148 : dec mX8_layAll 148 = .ok (.iconst 0, 1) := by decide +kernel
theorem dX8_layAll_149 : dec mX8_layAll 149 = .ok (.istore 7, 2) := by decide +kernel
theorem dX8_layAll_151 : dec mX8_layAll 151 = .ok (.aload_n 0, 1) := by decide +kernel
theorem dX8_layAll_152 : dec mX8_layAll 152 = .ok (.getfield 29, 3) := by decide +kernel
theorem dX8_layAll_155 : dec mX8_layAll 155 = .ok (.iload 6, 2) := by decide +kernel
theorem dX8_layAll_157 : dec mX8_layAll 157 = .ok (.baload, 1) := by decide +kernel
theorem dX8_layAll_158 : dec mX8_layAll 158 = .ok (.ifCond .eq 20, 3) := by decide +kernel
theorem dX8_layAll_161 : dec mX8_layAll 161 = .ok (.iload 4, 2) := by decide +kernel
theorem dX8_layAll_163 : dec mX8_layAll 163 = .ok (.iconst (-1), 1) := by decide +kernel
theorem dX8_layAll_164 : dec mX8_layAll 164 = .ok (.if_icmp .eq 10, 3) := by decide +kernel
theorem dX8_layAll_167 : dec mX8_layAll 167 = .ok (.iload 7, 2) := by decide +kernel
theorem dX8_layAll_169 : dec mX8_layAll 169 = .ok (.iload 5, 2) := by decide +kernel
theorem dX8_layAll_171 : dec mX8_layAll 171 = .ok (.if_icmp .ge 7, 3) := by decide +kernel
theorem dX8_layAll_174 : dec mX8_layAll 174 = .ok (.iconst 1, 1) := by decide +kernel
theorem dX8_layAll_175 : dec mX8_layAll 175 = .ok (.goto 4, 3) := by decide +kernel
theorem dX8_layAll_178 : dec mX8_layAll 178 = .ok (.iconst 0, 1) := by decide +kernel
theorem dX8_layAll_179 : dec mX8_layAll 179 = .ok (.istore 8, 2) := by decide +kernel
theorem dX8_layAll_181 : dec mX8_layAll 181 = .ok (.iload 8, 2) := by decide +kernel
theorem dX8_layAll_183 : dec mX8_layAll 183 = .ok (.ifCond .eq 8, 3) := by decide +kernel
theorem dX8_layAll_186 : dec mX8_layAll 186 = .ok (.iload 6, 2) := by decide +kernel
theorem dX8_layAll_188 : dec mX8_layAll 188 = .ok (.goto 5, 3) := by decide +kernel
theorem dX8_layAll_191 : dec mX8_layAll 191 = .ok (.iload 4, 2) := by decide +kernel
theorem dX8_layAll_193 : dec mX8_layAll 193 = .ok (.istore 4, 2) := by decide +kernel
theorem dX8_layAll_195 : dec mX8_layAll 195 = .ok (.iload 8, 2) := by decide +kernel
theorem dX8_layAll_197 : dec mX8_layAll 197 = .ok (.ifCond .eq 8, 3) := by decide +kernel
theorem dX8_layAll_200 : dec mX8_layAll 200 = .ok (.iload 7, 2) := by decide +kernel
theorem dX8_layAll_202 : dec mX8_layAll 202 = .ok (.goto 5, 3) := by decide +kernel
theorem dX8_layAll_205 : dec mX8_layAll 205 = .ok (.iload 5, 2) := by decide +kernel
theorem dX8_layAll_207 : dec mX8_layAll 207 = .ok (.istore 5, 2) := by decide +kernel
theorem dX8_layAll_209 : dec mX8_layAll 209 = .ok (.iinc 6 1, 3) := by decide +kernel
theorem dX8_layAll_212 : dec mX8_layAll 212 = .ok (.goto (-98), 3) := by decide +kernel
theorem dX8_layAll_215 : dec mX8_layAll 215 = .ok (.aload_n 0, 1) := by decide +kernel
theorem dX8_layAll_216 : dec mX8_layAll 216 = .ok (.getfield 29, 3) := by decide +kernel
theorem dX8_layAll_219 : dec mX8_layAll 219 = .ok (.iload 4, 2) := by decide +kernel
theorem dX8_layAll_221 : dec mX8_layAll 221 = .ok (.iconst 0, 1) := by decide +kernel
theorem dX8_layAll_222 : dec mX8_layAll 222 = .ok (.bastore, 1) := by decide +kernel
theorem dX8_layAll_223 : dec mX8_layAll 223 = .ok (.aload_n 1, 1) := by decide +kernel
theorem dX8_layAll_224 : dec mX8_layAll 224 = .ok (.iload_n 3, 1) := by decide +kernel
theorem dX8_layAll_225 : dec mX8_layAll 225 = .ok (.iload 4, 2) := by decide +kernel
theorem dX8_layAll_227 : dec mX8_layAll 227 = .ok (.invokestatic 100, 3) := by decide +kernel
theorem dX8_layAll_230 : dec mX8_layAll 230 = .ok (.iinc 3 1, 3) := by decide +kernel
theorem dX8_layAll_233 : dec mX8_layAll 233 = .ok (.goto (-155), 3) := by decide +kernel
theorem dX8_layAll_236 : dec mX8_layAll 236 = .ok (.iload_n 2, 1) := by decide +kernel
theorem dX8_layAll_237 : dec mX8_layAll 237 = .ok (.aload_n 1, 1) := by decide +kernel
theorem dX8_layAll_238 : dec mX8_layAll 238 = .ok (.invokestatic 146, 3) := by decide +kernel
theorem dX8_layAll_241 : dec mX8_layAll 241 = .ok (.isub, 1) := by decide +kernel
theorem dX8_layAll_242 : dec mX8_layAll 242 = .ok (.ireturn, 1) := by decide +kernel
theorem dX8_fadeOn_0 : dec mX8_fadeOn 0 = .ok (.aload_n 0, 1) := by decide +kernel
theorem dX8_fadeOn_1 : dec mX8_fadeOn 1 = .ok (.invokestatic 40, 3) := by decide +kernel
theorem dX8_fadeOn_4 : dec mX8_fadeOn 4 = .ok (.aload_n 0, 1) := by decide +kernel
theorem dX8_fadeOn_5 : dec mX8_fadeOn 5 = .ok (.invokestatic 44, 3) := by decide +kernel
theorem dX8_fadeOn_8 : dec mX8_fadeOn 8 = .ok (.iadd, 1) := by decide +kernel
theorem dX8_fadeOn_9 : dec mX8_fadeOn 9 = .ok (.iconst 2, 1) := by decide +kernel
theorem dX8_fadeOn_10 : dec mX8_fadeOn 10 = .ok (.isub, 1) := by decide +kernel
theorem dX8_fadeOn_11 : dec mX8_fadeOn 11 = .ok (.istore_n 3, 1) := by decide +kernel
theorem dX8_fadeOn_12 : dec mX8_fadeOn 12 = .ok (.iconst 0, 1) := by decide +kernel
theorem dX8_fadeOn_13 : dec mX8_fadeOn 13 = .ok (.istore 4, 2) := by decide +kernel
theorem dX8_fadeOn_15 : dec mX8_fadeOn 15 = .ok (.iload 4, 2) := by decide +kernel
theorem dX8_fadeOn_17 : dec mX8_fadeOn 17 = .ok (.aload_n 0, 1) := by decide +kernel
theorem dX8_fadeOn_18 : dec mX8_fadeOn 18 = .ok (.invokestatic 47, 3) := by decide +kernel
theorem dX8_fadeOn_21 : dec mX8_fadeOn 21 = .ok (.if_icmp .ge 45, 3) := by decide +kernel
theorem dX8_fadeOn_24 : dec mX8_fadeOn 24 = .ok (.iload 4, 2) := by decide +kernel
theorem dX8_fadeOn_26 : dec mX8_fadeOn 26 = .ok (.aload_n 0, 1) := by decide +kernel
theorem dX8_fadeOn_27 : dec mX8_fadeOn 27 = .ok (.invokestatic 40, 3) := by decide +kernel
theorem dX8_fadeOn_30 : dec mX8_fadeOn 30 = .ok (.irem, 1) := by decide +kernel
theorem dX8_fadeOn_31 : dec mX8_fadeOn 31 = .ok (.iload 4, 2) := by decide +kernel
theorem dX8_fadeOn_33 : dec mX8_fadeOn 33 = .ok (.aload_n 0, 1) := by decide +kernel
theorem dX8_fadeOn_34 : dec mX8_fadeOn 34 = .ok (.invokestatic 40, 3) := by decide +kernel
theorem dX8_fadeOn_37 : dec mX8_fadeOn 37 = .ok (.idiv, 1) := by decide +kernel
theorem dX8_fadeOn_38 : dec mX8_fadeOn 38 = .ok (.iadd, 1) := by decide +kernel
theorem dX8_fadeOn_39 : dec mX8_fadeOn 39 = .ok (.istore 5, 2) := by decide +kernel
theorem dX8_fadeOn_41 : dec mX8_fadeOn 41 = .ok (.aload_n 0, 1) := by decide +kernel
theorem dX8_fadeOn_42 : dec mX8_fadeOn 42 = .ok (.iconst 3, 1) := by decide +kernel
theorem dX8_fadeOn_43 : dec mX8_fadeOn 43 = .ok (.iload 4, 2) := by decide +kernel
theorem dX8_fadeOn_45 : dec mX8_fadeOn 45 = .ok (.iadd, 1) := by decide +kernel
theorem dX8_fadeOn_46 : dec mX8_fadeOn 46 = .ok (.iload_n 1, 1) := by decide +kernel
theorem dX8_fadeOn_47 : dec mX8_fadeOn 47 = .ok (.iload_n 3, 1) := by decide +kernel
theorem dX8_fadeOn_48 : dec mX8_fadeOn 48 = .ok (.iload 5, 2) := by decide +kernel
theorem dX8_fadeOn_50 : dec mX8_fadeOn 50 = .ok (.isub, 1) := by decide +kernel
theorem dX8_fadeOn_51 : dec mX8_fadeOn 51 = .ok (.imul, 1) := by decide +kernel
theorem dX8_fadeOn_52 : dec mX8_fadeOn 52 = .ok (.iload_n 2, 1) := by decide +kernel
theorem dX8_fadeOn_53 : dec mX8_fadeOn 53 = .ok (.iload 5, 2) := by decide +kernel
theorem dX8_fadeOn_55 : dec mX8_fadeOn 55 = .ok (.imul, 1) := by decide +kernel
theorem dX8_fadeOn_56 : dec mX8_fadeOn 56 = .ok (.iadd, 1) := by decide +kernel
theorem dX8_fadeOn_57 : dec mX8_fadeOn 57 = .ok (.iload_n 3, 1) := by decide +kernel
theorem dX8_fadeOn_58 : dec mX8_fadeOn 58 = .ok (.idiv, 1) := by decide +kernel
theorem dX8_fadeOn_59 : dec mX8_fadeOn 59 = .ok (.iastore, 1) := by decide +kernel
theorem dX8_fadeOn_60 : dec mX8_fadeOn 60 = .ok (.iinc 4 1, 3) := by decide +kernel
theorem dX8_fadeOn_63 : dec mX8_fadeOn 63 = .ok (.goto (-48), 3) := by decide +kernel
theorem dX8_fadeOn_66 : dec mX8_fadeOn 66 = .ok (.return_, 1) := by decide +kernel
theorem dX8_greyOn_0 : dec mX8_greyOn 0 = .ok (.iconst 3, 1) := by decide +kernel
theorem dX8_greyOn_1 : dec mX8_greyOn 1 = .ok (.aload_n 0, 1) := by decide +kernel
theorem dX8_greyOn_2 : dec mX8_greyOn 2 = .ok (.invokestatic 40, 3) := by decide +kernel
theorem dX8_greyOn_5 : dec mX8_greyOn 5 = .ok (.iload_n 2, 1) := by decide +kernel
theorem dX8_greyOn_6 : dec mX8_greyOn 6 = .ok (.imul, 1) := by decide +kernel
theorem dX8_greyOn_7 : dec mX8_greyOn 7 = .ok (.iadd, 1) := by decide +kernel
theorem dX8_greyOn_8 : dec mX8_greyOn 8 = .ok (.iload_n 1, 1) := by decide +kernel
theorem dX8_greyOn_9 : dec mX8_greyOn 9 = .ok (.iadd, 1) := by decide +kernel
theorem dX8_greyOn_10 : dec mX8_greyOn 10 = .ok (.istore 4, 2) := by decide +kernel
theorem dX8_greyOn_12 : dec mX8_greyOn 12 = .ok (.aload_n 0, 1) := by decide +kernel
theorem dX8_greyOn_13 : dec mX8_greyOn 13 = .ok (.iload 4, 2) := by decide +kernel
theorem dX8_greyOn_15 : dec mX8_greyOn 15 = .ok (.iaload, 1) := by decide +kernel
theorem dX8_greyOn_16 : dec mX8_greyOn 16 = .ok (.istore 5, 2) := by decide +kernel
theorem dX8_greyOn_18 : dec mX8_greyOn 18 = .ok (.aload_n 0, 1) := by decide +kernel
theorem dX8_greyOn_19 : dec mX8_greyOn 19 = .ok (.iload 4, 2) := by decide +kernel
theorem dX8_greyOn_21 : dec mX8_greyOn 21 = .ok (.iload_n 3, 1) := by decide +kernel
theorem dX8_greyOn_22 : dec mX8_greyOn 22 = .ok (.iastore, 1) := by decide +kernel
theorem dX8_greyOn_23 : dec mX8_greyOn 23 = .ok (.iload 5, 2) := by decide +kernel
theorem dX8_greyOn_25 : dec mX8_greyOn 25 = .ok (.ireturn, 1) := by decide +kernel
theorem dX8_heldMany_0 : dec mX8_heldMany 0 = .ok (.iconst 0, 1) := by decide +kernel
theorem dX8_heldMany_1 : dec mX8_heldMany 1 = .ok (.istore_n 1, 1) := by decide +kernel
theorem dX8_heldMany_2 : dec mX8_heldMany 2 = .ok (.iconst 0, 1) := by decide +kernel
theorem dX8_heldMany_3 : dec mX8_heldMany 3 = .ok (.istore_n 2, 1) := by decide +kernel
theorem dX8_heldMany_4 : dec mX8_heldMany 4 = .ok (.iload_n 2, 1) := by decide +kernel
theorem dX8_heldMany_5 : dec mX8_heldMany 5 = .ok (.aload_n 0, 1) := by decide +kernel
theorem dX8_heldMany_6 : dec mX8_heldMany 6 = .ok (.invokestatic 47, 3) := by decide +kernel
theorem dX8_heldMany_9 : dec mX8_heldMany 9 = .ok (.if_icmp .ge 32, 3) := by decide +kernel
theorem dX8_heldMany_12 : dec mX8_heldMany 12 = .ok (.iload_n 1, 1) := by decide +kernel
theorem dX8_heldMany_13 : dec mX8_heldMany 13 = .ok (.aload_n 0, 1) := by decide +kernel
theorem dX8_heldMany_14 : dec mX8_heldMany 14 = .ok (.bipush 115, 2) := by decide +kernel
theorem dX8_heldMany_16 : dec mX8_heldMany 16 = .ok (.iload_n 2, 1) := by decide +kernel
theorem dX8_heldMany_17 : dec mX8_heldMany 17 = .ok (.iadd, 1) := by decide +kernel
theorem dX8_heldMany_18 : dec mX8_heldMany 18 = .ok (.iaload, 1) := by decide +kernel
theorem dX8_heldMany_19 : dec mX8_heldMany 19 = .ok (.ifCond .le 13, 3) := by decide +kernel
theorem dX8_heldMany_22 : dec mX8_heldMany 22 = .ok (.aload_n 0, 1) := by decide +kernel
theorem dX8_heldMany_23 : dec mX8_heldMany 23 = .ok (.sipush 451, 3) := by decide +kernel
theorem dX8_heldMany_26 : dec mX8_heldMany 26 = .ok (.iload_n 2, 1) := by decide +kernel
theorem dX8_heldMany_27 : dec mX8_heldMany 27 = .ok (.iadd, 1) := by decide +kernel
theorem dX8_heldMany_28 : dec mX8_heldMany 28 = .ok (.iaload, 1) := by decide +kernel
theorem dX8_heldMany_29 : dec mX8_heldMany 29 = .ok (.goto 4, 3) := by decide +kernel
theorem dX8_heldMany_32 : dec mX8_heldMany 32 = .ok (.iconst 0, 1) := by decide +kernel
theorem dX8_heldMany_33 : dec mX8_heldMany 33 = .ok (.iadd, 1) := by decide +kernel
theorem dX8_heldMany_34 : dec mX8_heldMany 34 = .ok (.istore_n 1, 1) := by decide +kernel
theorem dX8_heldMany_35 : dec mX8_heldMany 35 = .ok (.iinc 2 1, 3) := by decide +kernel
theorem dX8_heldMany_38 : dec mX8_heldMany 38 = .ok (.goto (-34), 3) := by decide +kernel
theorem dX8_heldMany_41 : dec mX8_heldMany 41 = .ok (.iload_n 1, 1) := by decide +kernel
theorem dX8_heldMany_42 : dec mX8_heldMany 42 = .ok (.ireturn, 1) := by decide +kernel
theorem dX8_holdOn_0 : dec mX8_holdOn 0 = .ok (.aload_n 0, 1) := by decide +kernel
theorem dX8_holdOn_1 : dec mX8_holdOn 1 = .ok (.sipush 451, 3) := by decide +kernel
theorem dX8_holdOn_4 : dec mX8_holdOn 4 = .ok (.aload_n 0, 1) := by decide +kernel
theorem dX8_holdOn_5 : dec mX8_holdOn 5 = .ok (.iload_n 1, 1) := by decide +kernel
theorem dX8_holdOn_6 : dec mX8_holdOn 6 = .ok (.invokestatic 123, 3) := by decide +kernel
theorem dX8_holdOn_9 : dec mX8_holdOn 9 = .ok (.iadd, 1) := by decide +kernel
theorem dX8_holdOn_10 : dec mX8_holdOn 10 = .ok (.iload_n 2, 1) := by decide +kernel
theorem dX8_holdOn_11 : dec mX8_holdOn 11 = .ok (.ifCond .eq 7, 3) := by decide +kernel
theorem dX8_holdOn_14 : dec mX8_holdOn 14 = .ok (.iconst 1, 1) := by decide +kernel
theorem dX8_holdOn_15 : dec mX8_holdOn 15 = .ok (.goto 4, 3) := by decide +kernel
theorem dX8_holdOn_18 : dec mX8_holdOn 18 = .ok (.iconst 0, 1) := by decide +kernel
theorem dX8_holdOn_19 : dec mX8_holdOn 19 = .ok (.iastore, 1) := by decide +kernel
theorem dX8_holdOn_20 : dec mX8_holdOn 20 = .ok (.aload_n 0, 1) := by decide +kernel
theorem dX8_holdOn_21 : dec mX8_holdOn 21 = .ok (.invokestatic 149, 3) := by decide +kernel
theorem dX8_holdOn_24 : dec mX8_holdOn 24 = .ok (.ireturn, 1) := by decide +kernel
theorem dX8_canTurn_0 : dec mX8_canTurn 0 = .ok (.aload_n 0, 1) := by decide +kernel
theorem dX8_canTurn_1 : dec mX8_canTurn 1 = .ok (.iload_n 1, 1) := by decide +kernel
theorem dX8_canTurn_2 : dec mX8_canTurn 2 = .ok (.invokestatic 152, 3) := by decide +kernel
theorem dX8_canTurn_5 : dec mX8_canTurn 5 = .ok (.ifCond .eq 21, 3) := by decide +kernel
theorem dX8_canTurn_8 : dec mX8_canTurn 8 = .ok (.aload_n 0, 1) := by decide +kernel
theorem dX8_canTurn_9 : dec mX8_canTurn 9 = .ok (.sipush 451, 3) := by decide +kernel
theorem dX8_canTurn_12 : dec mX8_canTurn 12 = .ok (.aload_n 0, 1) := by decide +kernel
theorem dX8_canTurn_13 : dec mX8_canTurn 13 = .ok (.iload_n 1, 1) := by decide +kernel
theorem dX8_canTurn_14 : dec mX8_canTurn 14 = .ok (.invokestatic 123, 3) := by decide +kernel
theorem dX8_canTurn_17 : dec mX8_canTurn 17 = .ok (.iadd, 1) := by decide +kernel
theorem dX8_canTurn_18 : dec mX8_canTurn 18 = .ok (.iaload, 1) := by decide +kernel
theorem dX8_canTurn_19 : dec mX8_canTurn 19 = .ok (.ifCond .ne 7, 3) := by decide +kernel
theorem dX8_canTurn_22 : dec mX8_canTurn 22 = .ok (.iconst 1, 1) := by decide +kernel
theorem dX8_canTurn_23 : dec mX8_canTurn 23 = .ok (.goto 4, 3) := by decide +kernel
theorem dX8_canTurn_26 : dec mX8_canTurn 26 = .ok (.iconst 0, 1) := by decide +kernel
theorem dX8_canTurn_27 : dec mX8_canTurn 27 = .ok (.ireturn, 1) := by decide +kernel
theorem dX8_canSwap_0 : dec mX8_canSwap 0 = .ok (.iload_n 1, 1) := by decide +kernel
theorem dX8_canSwap_1 : dec mX8_canSwap 1 = .ok (.iload_n 2, 1) := by decide +kernel
theorem dX8_canSwap_2 : dec mX8_canSwap 2 = .ok (.if_icmp .eq 23, 3) := by decide +kernel
theorem dX8_canSwap_5 : dec mX8_canSwap 5 = .ok (.aload_n 0, 1) := by decide +kernel
theorem dX8_canSwap_6 : dec mX8_canSwap 6 = .ok (.iload_n 1, 1) := by decide +kernel
theorem dX8_canSwap_7 : dec mX8_canSwap 7 = .ok (.invokestatic 155, 3) := by decide +kernel
theorem dX8_canSwap_10 : dec mX8_canSwap 10 = .ok (.ifCond .eq 15, 3) := by decide +kernel
theorem dX8_canSwap_13 : dec mX8_canSwap 13 = .ok (.aload_n 0, 1) := by decide +kernel
theorem dX8_canSwap_14 : dec mX8_canSwap 14 = .ok (.iload_n 2, 1) := by decide +kernel
theorem dX8_canSwap_15 : dec mX8_canSwap 15 = .ok (.invokestatic 155, 3) := by decide +kernel
theorem dX8_canSwap_18 : dec mX8_canSwap 18 = .ok (.ifCond .eq 7, 3) := by decide +kernel
theorem dX8_canSwap_21 : dec mX8_canSwap 21 = .ok (.iconst 1, 1) := by decide +kernel
theorem dX8_canSwap_22 : dec mX8_canSwap 22 = .ok (.goto 4, 3) := by decide +kernel
theorem dX8_canSwap_25 : dec mX8_canSwap 25 = .ok (.iconst 0, 1) := by decide +kernel
theorem dX8_canSwap_26 : dec mX8_canSwap 26 = .ok (.ireturn, 1) := by decide +kernel
theorem dX8_canFlip_0 : dec mX8_canFlip 0 = .ok (.aload_n 0, 1) := by decide +kernel
theorem dX8_canFlip_1 : dec mX8_canFlip 1 = .ok (.iload_n 1, 1) := by decide +kernel
theorem dX8_canFlip_2 : dec mX8_canFlip 2 = .ok (.iload_n 2, 1) := by decide +kernel
theorem dX8_canFlip_3 : dec mX8_canFlip 3 = .ok (.invokestatic 158, 3) := by decide +kernel
theorem dX8_canFlip_6 : dec mX8_canFlip 6 = .ok (.ifCond .eq 22, 3) := by decide +kernel
theorem dX8_canFlip_9 : dec mX8_canFlip 9 = .ok (.aload_n 0, 1) := by decide +kernel
theorem dX8_canFlip_10 : dec mX8_canFlip 10 = .ok (.aload_n 0, 1) := by decide +kernel
theorem dX8_canFlip_11 : dec mX8_canFlip 11 = .ok (.invokestatic 40, 3) := by decide +kernel
theorem dX8_canFlip_14 : dec mX8_canFlip 14 = .ok (.iload_n 2, 1) := by decide +kernel
theorem dX8_canFlip_15 : dec mX8_canFlip 15 = .ok (.imul, 1) := by decide +kernel
theorem dX8_canFlip_16 : dec mX8_canFlip 16 = .ok (.iload_n 1, 1) := by decide +kernel
theorem dX8_canFlip_17 : dec mX8_canFlip 17 = .ok (.iadd, 1) := by decide +kernel
theorem dX8_canFlip_18 : dec mX8_canFlip 18 = .ok (.invokestatic 119, 3) := by decide +kernel
theorem dX8_canFlip_21 : dec mX8_canFlip 21 = .ok (.ifCond .eq 7, 3) := by decide +kernel
theorem dX8_canFlip_24 : dec mX8_canFlip 24 = .ok (.iconst 1, 1) := by decide +kernel
theorem dX8_canFlip_25 : dec mX8_canFlip 25 = .ok (.goto 4, 3) := by decide +kernel
theorem dX8_canFlip_28 : dec mX8_canFlip 28 = .ok (.iconst 0, 1) := by decide +kernel
theorem dX8_canFlip_29 : dec mX8_canFlip 29 = .ok (.ireturn, 1) := by decide +kernel
theorem dX8_append_0 : dec mX8_append 0 = .ok (.aload_n 0, 1) := by decide +kernel
theorem dX8_append_1 : dec mX8_append 1 = .ok (.iload_n 1, 1) := by decide +kernel
theorem dX8_append_2 : dec mX8_append 2 = .ok (.i2l, 1) := by decide +kernel
theorem dX8_append_3 : dec mX8_append 3 = .ok (.lconst 0, 1) := by decide +kernel
theorem dX8_append_4 : dec mX8_append 4 = .ok (.ldc2_w 162, 3) := by decide +kernel
theorem dX8_append_7 : dec mX8_append 7 = .ok (.invokestatic 50, 3) := by decide +kernel
theorem dX8_append_10 : dec mX8_append 10 = .ok (.ifCond .ne 7, 3) := by decide +kernel
theorem dX8_append_13 : dec mX8_append 13 = .ok (.iconst 1, 1) := by decide +kernel
theorem dX8_append_14 : dec mX8_append 14 = .ok (.goto 17, 3) := by decide +kernel
theorem dX8_append_17 : dec mX8_append 17 = .ok (.aload_n 0, 1) := by decide +kernel
theorem dX8_append_18 : dec mX8_append 18 = .ok (.getfield 164, 3) := by decide +kernel
theorem dX8_append_21 : dec mX8_append 21 = .ok (.bipush 120, 2) := by decide +kernel
theorem dX8_append_23 : dec mX8_append 23 = .ok (.if_icmp .ne 7, 3) := by decide +kernel
theorem dX8_append_26 : dec mX8_append 26 = .ok (.iconst 2, 1) := by decide +kernel
theorem dX8_append_27 : dec mX8_append 27 = .ok (.goto 4, 3) := by decide +kernel
theorem dX8_append_30 : dec mX8_append 30 = .ok (.iconst 0, 1) := by decide +kernel
theorem dX8_append_31 : dec mX8_append 31 = .ok (.invokevirtual 167, 3) := by decide +kernel
theorem dX8_append_34 : dec mX8_append 34 = .ok (.ifCond .eq 5, 3) := by decide +kernel
theorem dX8_append_37 : dec mX8_append 37 = .ok (.iconst 0, 1) := by decide +kernel
theorem dX8_append_38 : dec mX8_append 38 = .ok (.ireturn, 1) := by decide +kernel
theorem dX8_append_39 : dec mX8_append 39 = .ok (.aload_n 0, 1) := by decide +kernel
theorem dX8_append_40 : dec mX8_append 40 = .ok (.getfield 7, 3) := by decide +kernel
theorem dX8_append_43 : dec mX8_append 43 = .ok (.aload_n 0, 1) := by decide +kernel
theorem dX8_append_44 : dec mX8_append 44 = .ok (.getfield 164, 3) := by decide +kernel
theorem dX8_append_47 : dec mX8_append 47 = .ok (.iload_n 1, 1) := by decide +kernel
theorem dX8_append_48 : dec mX8_append 48 = .ok (.iastore, 1) := by decide +kernel
theorem dX8_append_49 : dec mX8_append 49 = .ok (.aload_n 0, 1) := by decide +kernel
theorem dX8_append_50 : dec mX8_append 50 = .ok (.dup, 1) := by decide +kernel
theorem dX8_append_51 : dec mX8_append 51 = .ok (.getfield 164, 3) := by decide +kernel
theorem dX8_append_54 : dec mX8_append 54 = .ok (.iconst 1, 1) := by decide +kernel
theorem dX8_append_55 : dec mX8_append 55 = .ok (.iadd, 1) := by decide +kernel
theorem dX8_append_56 : dec mX8_append 56 = .ok (.putfield 164, 3) := by decide +kernel
theorem dX8_append_59 : dec mX8_append 59 = .ok (.aload_n 0, 1) := by decide +kernel
theorem dX8_append_60 : dec mX8_append 60 = .ok (.getfield 164, 3) := by decide +kernel
theorem dX8_append_63 : dec mX8_append 63 = .ok (.ireturn, 1) := by decide +kernel
theorem dX8_clearText_0 : dec mX8_clearText 0 = .ok (.aload_n 0, 1) := by decide +kernel
theorem dX8_clearText_1 : dec mX8_clearText 1 = .ok (.iconst 0, 1) := by decide +kernel
theorem dX8_clearText_2 : dec mX8_clearText 2 = .ok (.putfield 36, 3) := by decide +kernel
theorem dX8_clearText_5 : dec mX8_clearText 5 = .ok (.aload_n 0, 1) := by decide +kernel
theorem dX8_clearText_6 : dec mX8_clearText 6 = .ok (.getfield 164, 3) := by decide +kernel
theorem dX8_clearText_9 : dec mX8_clearText 9 = .ok (.istore_n 1, 1) := by decide +kernel
theorem dX8_clearText_10 : dec mX8_clearText 10 = .ok (.aload_n 0, 1) := by decide +kernel
theorem dX8_clearText_11 : dec mX8_clearText 11 = .ok (.iconst 0, 1) := by decide +kernel
theorem dX8_clearText_12 : dec mX8_clearText 12 = .ok (.putfield 164, 3) := by decide +kernel
theorem dX8_clearText_15 : dec mX8_clearText 15 = .ok (.iload_n 1, 1) := by decide +kernel
theorem dX8_clearText_16 : dec mX8_clearText 16 = .ok (.ireturn, 1) := by decide +kernel
theorem dX8_figures_0 : dec mX8_figures 0 = .ok (.iconst 0, 1) := by decide +kernel
theorem dX8_figures_1 : dec mX8_figures 1 = .ok (.istore 5, 2) := by decide +kernel
theorem dX8_figures_3 : dec mX8_figures 3 = .ok (.iload_n 2, 1) := by decide +kernel
theorem dX8_figures_4 : dec mX8_figures 4 = .ok (.iconst 2, 1) := by decide +kernel
theorem dX8_figures_5 : dec mX8_figures 5 = .ok (.if_icmp .ne 8, 3) := by decide +kernel
theorem dX8_figures_8 : dec mX8_figures 8 = .ok (.bipush 10, 2) := by decide +kernel
theorem dX8_figures_10 : dec mX8_figures 10 = .ok (.goto 4, 3) := by decide +kernel
theorem dX8_figures_13 : dec mX8_figures 13 = .ok (.iconst 1, 1) := by decide +kernel
theorem dX8_figures_14 : dec mX8_figures 14 = .ok (.istore 6, 2) := by decide +kernel
theorem dX8_figures_16 : dec mX8_figures 16 = .ok (.iload 6, 2) := by decide +kernel
theorem dX8_figures_18 : dec mX8_figures 18 = .ok (.ifCond .le 104, 3) := by decide +kernel
theorem dX8_figures_21 : dec mX8_figures 21 = .ok (.iload_n 1, 1) := by decide +kernel
theorem dX8_figures_22 : dec mX8_figures 22 = .ok (.iconst (-1), 1) := by decide +kernel
theorem dX8_figures_23 : dec mX8_figures 23 = .ok (.if_icmp .eq 99, 3) := by decide +kernel
theorem dX8_figures_26 : dec mX8_figures 26 = .ok (.aload_n 0, 1) := by decide +kernel
theorem dX8_figures_27 : dec mX8_figures 27 = .ok (.getfield 171, 3) := by decide +kernel
theorem dX8_figures_30 : dec mX8_figures 30 = .ok (.aload_n 0, 1) := by decide +kernel
theorem dX8_figures_31 : dec mX8_figures 31 = .ok (.getfield 164, 3) := by decide +kernel
theorem dX8_figures_34 : dec mX8_figures 34 = .ok (.if_icmp .ge 18, 3) := by decide +kernel
theorem dX8_figures_37 : dec mX8_figures 37 = .ok (.aload_n 0, 1) := by decide +kernel
theorem dX8_figures_38 : dec mX8_figures 38 = .ok (.getfield 7, 3) := by decide +kernel
theorem dX8_figures_41 : dec mX8_figures 41 = .ok (.aload_n 0, 1) := by decide +kernel
theorem dX8_figures_42 : dec mX8_figures 42 = .ok (.getfield 171, 3) := by decide +kernel
theorem dX8_figures_45 : dec mX8_figures 45 = .ok (.iaload, 1) := by decide +kernel
theorem dX8_figures_46 : dec mX8_figures 46 = .ok (.bipush 48, 2) := by decide +kernel
theorem dX8_figures_48 : dec mX8_figures 48 = .ok (.isub, 1) := by decide +kernel
theorem dX8_figures_49 : dec mX8_figures 49 = .ok (.goto 4, 3) := by decide +kernel
theorem dX8_figures_52 : dec mX8_figures 52 = .ok (.iconst (-1), 1) := by decide +kernel
theorem dX8_figures_53 : dec mX8_figures 53 = .ok (.istore 7, 2) := by decide +kernel
theorem dX8_figures_55 : dec mX8_figures 55 = .ok (.iload 5, 2) := by decide +kernel
theorem dX8_figures_57 : dec mX8_figures 57 = .ok (.iload 7, 2) := by decide +kernel
theorem dX8_figures_59 : dec mX8_figures 59 = .ok (.iload 6, 2) := by decide +kernel
theorem dX8_figures_61 : dec mX8_figures 61 = .ok (.imul, 1) := by decide +kernel
theorem dX8_figures_62 : dec mX8_figures 62 = .ok (.iadd, 1) := by decide +kernel
theorem dX8_figures_63 : dec mX8_figures 63 = .ok (.istore 8, 2) := by decide +kernel
theorem dX8_figures_65 : dec mX8_figures 65 = .ok (.iload 7, 2) := by decide +kernel
theorem dX8_figures_67 : dec mX8_figures 67 = .ok (.i2l, 1) := by decide +kernel
theorem dX8_figures_68 : dec mX8_figures 68 = .ok (.lconst 0, 1) := by decide +kernel
theorem dX8_figures_69 : dec mX8_figures 69 = .ok (.ldc2_w 174, 3) := by decide +kernel
theorem dX8_figures_72 : dec mX8_figures 72 = .ok (.invokestatic 50, 3) := by decide +kernel
theorem dX8_figures_75 : dec mX8_figures 75 = .ok (.ifCond .eq 21, 3) := by decide +kernel
theorem dX8_figures_78 : dec mX8_figures 78 = .ok (.iload 8, 2) := by decide +kernel
theorem dX8_figures_80 : dec mX8_figures 80 = .ok (.iload 4, 2) := by decide +kernel
theorem dX8_figures_82 : dec mX8_figures 82 = .ok (.if_icmp .gt 14, 3) := by decide +kernel
theorem dX8_figures_85 : dec mX8_figures 85 = .ok (.iload 8, 2) := by decide +kernel
theorem dX8_figures_87 : dec mX8_figures 87 = .ok (.iload 6, 2) := by decide +kernel
theorem dX8_figures_89 : dec mX8_figures 89 = .ok (.iadd, 1) := by decide +kernel
theorem dX8_figures_90 : dec mX8_figures 90 = .ok (.iconst 1, 1) := by decide +kernel
theorem dX8_figures_91 : dec mX8_figures 91 = .ok (.isub, 1) := by decide +kernel
theorem dX8_figures_92 : dec mX8_figures 92 = .ok (.iload_n 3, 1) := by decide +kernel
theorem dX8_figures_93 : dec mX8_figures 93 = .ok (.if_icmp .ge 5, 3) := by decide +kernel
theorem dX8_figures_96 : dec mX8_figures 96 = .ok (.iconst (-1), 1) := by decide +kernel
theorem dX8_figures_97 : dec mX8_figures 97 = .ok (.ireturn, 1) := by decide +kernel
theorem dX8_figures_98 : dec mX8_figures 98 = .ok (.iload 8, 2) := by decide +kernel
theorem dX8_figures_100 : dec mX8_figures 100 = .ok (.istore 5, 2) := by decide +kernel
theorem dX8_figures_102 : dec mX8_figures 102 = .ok (.aload_n 0, 1) := by decide +kernel
theorem dX8_figures_103 : dec mX8_figures 103 = .ok (.dup, 1) := by decide +kernel
theorem dX8_figures_104 : dec mX8_figures 104 = .ok (.getfield 171, 3) := by decide +kernel
theorem dX8_figures_107 : dec mX8_figures 107 = .ok (.iconst 1, 1) := by decide +kernel
theorem dX8_figures_108 : dec mX8_figures 108 = .ok (.iadd, 1) := by decide +kernel
theorem dX8_figures_109 : dec mX8_figures 109 = .ok (.putfield 171, 3) := by decide +kernel
theorem dX8_figures_112 : dec mX8_figures 112 = .ok (.iload 6, 2) := by decide +kernel
theorem dX8_figures_114 : dec mX8_figures 114 = .ok (.bipush 10, 2) := by decide +kernel
theorem dX8_figures_116 : dec mX8_figures 116 = .ok (.idiv, 1) := by decide +kernel
theorem dX8_figures_117 : dec mX8_figures 117 = .ok (.istore 6, 2) := by decide +kernel
theorem dX8_figures_119 : dec mX8_figures 119 = .ok (.goto (-103), 3) := by decide +kernel
theorem dX8_figures_122 : dec mX8_figures 122 = .ok (.iload_n 1, 1) := by decide +kernel
theorem dX8_figures_123 : dec mX8_figures 123 = .ok (.iconst (-1), 1) := by decide +kernel
theorem dX8_figures_124 : dec mX8_figures 124 = .ok (.if_icmp .ne 7, 3) := by decide +kernel
theorem dX8_figures_127 : dec mX8_figures 127 = .ok (.iconst (-1), 1) := by decide +kernel
theorem dX8_figures_128 : dec mX8_figures 128 = .ok (.goto 5, 3) := by decide +kernel
theorem dX8_figures_131 : dec mX8_figures 131 = .ok (.iload 5, 2) := by decide +kernel
theorem dX8_figures_133 : dec mX8_figures 133 = .ok (.ireturn, 1) := by decide +kernel
theorem dX8_done_0 : dec mX8_done 0 = .ok (.aload_n 0, 1) := by decide +kernel
theorem dX8_done_1 : dec mX8_done 1 = .ok (.dup, 1) := by decide +kernel
theorem dX8_done_2 : dec mX8_done 2 = .ok (.getfield 176, 3) := by decide +kernel
theorem dX8_done_5 : dec mX8_done 5 = .ok (.iload_n 1, 1) := by decide +kernel
theorem dX8_done_6 : dec mX8_done 6 = .ok (.ifCond .eq 7, 3) := by decide +kernel
theorem dX8_done_9 : dec mX8_done 9 = .ok (.iconst 0, 1) := by decide +kernel
theorem dX8_done_10 : dec mX8_done 10 = .ok (.goto 4, 3) := by decide +kernel
theorem dX8_done_13 : dec mX8_done 13 = .ok (.iconst 1, 1) := by decide +kernel
theorem dX8_done_14 : dec mX8_done 14 = .ok (.iadd, 1) := by decide +kernel
theorem dX8_done_15 : dec mX8_done 15 = .ok (.putfield 176, 3) := by decide +kernel
theorem dX8_done_18 : dec mX8_done 18 = .ok (.iconst 1, 1) := by decide +kernel
theorem dX8_done_19 : dec mX8_done 19 = .ok (.ireturn, 1) := by decide +kernel
theorem dX8_faded_0 : dec mX8_faded 0 = .ok (.aload_n 1, 1) := by decide +kernel
theorem dX8_faded_1 : dec mX8_faded 1 = .ok (.iload_n 2, 1) := by decide +kernel
theorem dX8_faded_2 : dec mX8_faded 2 = .ok (.iload_n 3, 1) := by decide +kernel
theorem dX8_faded_3 : dec mX8_faded 3 = .ok (.invokestatic 179, 3) := by decide +kernel
theorem dX8_faded_6 : dec mX8_faded 6 = .ok (.iconst 1, 1) := by decide +kernel
theorem dX8_faded_7 : dec mX8_faded 7 = .ok (.ireturn, 1) := by decide +kernel
theorem dX8_turnedOne_0 : dec mX8_turnedOne 0 = .ok (.aload_n 1, 1) := by decide +kernel
theorem dX8_turnedOne_1 : dec mX8_turnedOne 1 = .ok (.iload_n 2, 1) := by decide +kernel
theorem dX8_turnedOne_2 : dec mX8_turnedOne 2 = .ok (.invokestatic 155, 3) := by decide +kernel
theorem dX8_turnedOne_5 : dec mX8_turnedOne 5 = .ok (.istore_n 3, 1) := by decide +kernel
theorem dX8_turnedOne_6 : dec mX8_turnedOne 6 = .ok (.iload_n 3, 1) := by decide +kernel
theorem dX8_turnedOne_7 : dec mX8_turnedOne 7 = .ok (.ifCond .eq 13, 3) := by decide +kernel
theorem dX8_turnedOne_10 : dec mX8_turnedOne 10 = .ok (.aload_n 1, 1) := by decide +kernel
theorem dX8_turnedOne_11 : dec mX8_turnedOne 11 = .ok (.aload_n 1, 1) := by decide +kernel
theorem dX8_turnedOne_12 : dec mX8_turnedOne 12 = .ok (.iload_n 2, 1) := by decide +kernel
theorem dX8_turnedOne_13 : dec mX8_turnedOne 13 = .ok (.invokestatic 123, 3) := by decide +kernel
theorem dX8_turnedOne_16 : dec mX8_turnedOne 16 = .ok (.invokestatic 126, 3) := by decide +kernel
theorem dX8_turnedOne_19 : dec mX8_turnedOne 19 = .ok (.pop, 1) := by decide +kernel
theorem dX8_turnedOne_20 : dec mX8_turnedOne 20 = .ok (.iload_n 3, 1) := by decide +kernel
theorem dX8_turnedOne_21 : dec mX8_turnedOne 21 = .ok (.ireturn, 1) := by decide +kernel
theorem dX8_swapped_0 : dec mX8_swapped 0 = .ok (.aload_n 1, 1) := by decide +kernel
theorem dX8_swapped_1 : dec mX8_swapped 1 = .ok (.iload_n 2, 1) := by decide +kernel
theorem dX8_swapped_2 : dec mX8_swapped 2 = .ok (.iload_n 3, 1) := by decide +kernel
theorem dX8_swapped_3 : dec mX8_swapped 3 = .ok (.invokestatic 182, 3) := by decide +kernel
theorem dX8_swapped_6 : dec mX8_swapped 6 = .ok (.istore 4, 2) := by decide +kernel
theorem dX8_swapped_8 : dec mX8_swapped 8 = .ok (.iload 4, 2) := by decide +kernel
theorem dX8_swapped_10 : dec mX8_swapped 10 = .ok (.ifCond .eq 18, 3) := by decide +kernel
theorem dX8_swapped_13 : dec mX8_swapped 13 = .ok (.aload_n 1, 1) := by decide +kernel
theorem dX8_swapped_14 : dec mX8_swapped 14 = .ok (.aload_n 1, 1) := by decide +kernel
theorem dX8_swapped_15 : dec mX8_swapped 15 = .ok (.iload_n 2, 1) := by decide +kernel
theorem dX8_swapped_16 : dec mX8_swapped 16 = .ok (.invokestatic 123, 3) := by decide +kernel
theorem dX8_swapped_19 : dec mX8_swapped 19 = .ok (.aload_n 1, 1) := by decide +kernel
theorem dX8_swapped_20 : dec mX8_swapped 20 = .ok (.iload_n 3, 1) := by decide +kernel
theorem dX8_swapped_21 : dec mX8_swapped 21 = .ok (.invokestatic 123, 3) := by decide +kernel
theorem dX8_swapped_24 : dec mX8_swapped 24 = .ok (.invokestatic 129, 3) := by decide +kernel
theorem dX8_swapped_27 : dec mX8_swapped 27 = .ok (.pop, 1) := by decide +kernel
theorem dX8_swapped_28 : dec mX8_swapped 28 = .ok (.iload 4, 2) := by decide +kernel
theorem dX8_swapped_30 : dec mX8_swapped 30 = .ok (.ireturn, 1) := by decide +kernel
theorem dX8_flipped_0 : dec mX8_flipped 0 = .ok (.aload_n 1, 1) := by decide +kernel
theorem dX8_flipped_1 : dec mX8_flipped 1 = .ok (.iload_n 2, 1) := by decide +kernel
theorem dX8_flipped_2 : dec mX8_flipped 2 = .ok (.iload_n 3, 1) := by decide +kernel
theorem dX8_flipped_3 : dec mX8_flipped 3 = .ok (.invokestatic 185, 3) := by decide +kernel
theorem dX8_flipped_6 : dec mX8_flipped 6 = .ok (.istore 4, 2) := by decide +kernel
theorem dX8_flipped_8 : dec mX8_flipped 8 = .ok (.iload 4, 2) := by decide +kernel
theorem dX8_flipped_10 : dec mX8_flipped 10 = .ok (.ifCond .eq 16, 3) := by decide +kernel
theorem dX8_flipped_13 : dec mX8_flipped 13 = .ok (.aload_n 1, 1) := by decide +kernel
theorem dX8_flipped_14 : dec mX8_flipped 14 = .ok (.aload_n 1, 1) := by decide +kernel
theorem dX8_flipped_15 : dec mX8_flipped 15 = .ok (.invokestatic 40, 3) := by decide +kernel
theorem dX8_flipped_18 : dec mX8_flipped 18 = .ok (.iload_n 3, 1) := by decide +kernel
theorem dX8_flipped_19 : dec mX8_flipped 19 = .ok (.imul, 1) := by decide +kernel
theorem dX8_flipped_20 : dec mX8_flipped 20 = .ok (.iload_n 2, 1) := by decide +kernel
theorem dX8_flipped_21 : dec mX8_flipped 21 = .ok (.iadd, 1) := by decide +kernel
theorem dX8_flipped_22 : dec mX8_flipped 22 = .ok (.invokestatic 132, 3) := by decide +kernel
theorem dX8_flipped_25 : dec mX8_flipped 25 = .ok (.pop, 1) := by decide +kernel
theorem dX8_flipped_26 : dec mX8_flipped 26 = .ok (.iload 4, 2) := by decide +kernel
theorem dX8_flipped_28 : dec mX8_flipped 28 = .ok (.ireturn, 1) := by decide +kernel
theorem dX8_laidAnew_0 : dec mX8_laidAnew 0 = .ok (.aload_n 0, 1) := by decide +kernel
theorem dX8_laidAnew_1 : dec mX8_laidAnew 1 = .ok (.aload_n 1, 1) := by decide +kernel
theorem dX8_laidAnew_2 : dec mX8_laidAnew 2 = .ok (.invokevirtual 188, 3) := by decide +kernel
theorem dX8_laidAnew_5 : dec mX8_laidAnew 5 = .ok (.pop, 1) := by decide +kernel
theorem dX8_laidAnew_6 : dec mX8_laidAnew 6 = .ok (.iconst 1, 1) := by decide +kernel
theorem dX8_laidAnew_7 : dec mX8_laidAnew 7 = .ok (.ireturn, 1) := by decide +kernel
theorem dX8_readGrey_0 : dec mX8_readGrey 0 = .ok (.aload_n 0, 1) := by decide +kernel
theorem dX8_readGrey_1 : dec mX8_readGrey 1 = .ok (.iconst 0, 1) := by decide +kernel
theorem dX8_readGrey_2 : dec mX8_readGrey 2 = .ok (.iconst 1, 1) := by decide +kernel
theorem dX8_readGrey_3 : dec mX8_readGrey 3 = .ok (.iconst 0, 1) := by decide +kernel
theorem dX8_readGrey_4 : dec mX8_readGrey 4 = .ok (.bipush 7, 2) := by decide +kernel
theorem dX8_readGrey_6 : dec mX8_readGrey 6 = .ok (.invokevirtual 191, 3) := by decide +kernel
theorem dX8_readGrey_9 : dec mX8_readGrey 9 = .ok (.istore_n 2, 1) := by decide +kernel
theorem dX8_readGrey_10 : dec mX8_readGrey 10 = .ok (.aload_n 0, 1) := by decide +kernel
theorem dX8_readGrey_11 : dec mX8_readGrey 11 = .ok (.iload_n 2, 1) := by decide +kernel
theorem dX8_readGrey_12 : dec mX8_readGrey 12 = .ok (.iconst 2, 1) := by decide +kernel
theorem dX8_readGrey_13 : dec mX8_readGrey 13 = .ok (.iconst 0, 1) := by decide +kernel
theorem dX8_readGrey_14 : dec mX8_readGrey 14 = .ok (.bipush 13, 2) := by decide +kernel
theorem dX8_readGrey_16 : dec mX8_readGrey 16 = .ok (.invokevirtual 191, 3) := by decide +kernel
theorem dX8_readGrey_19 : dec mX8_readGrey 19 = .ok (.istore_n 3, 1) := by decide +kernel
theorem dX8_readGrey_20 : dec mX8_readGrey 20 = .ok (.aload_n 0, 1) := by decide +kernel
theorem dX8_readGrey_21 : dec mX8_readGrey 21 = .ok (.iload_n 3, 1) := by decide +kernel
theorem dX8_readGrey_22 : dec mX8_readGrey 22 = .ok (.iconst 2, 1) := by decide +kernel
theorem dX8_readGrey_23 : dec mX8_readGrey 23 = .ok (.iconst 0, 1) := by decide +kernel
theorem dX8_readGrey_24 : dec mX8_readGrey 24 = .ok (.bipush 99, 2) := by decide +kernel
theorem dX8_readGrey_26 : dec mX8_readGrey 26 = .ok (.invokevirtual 191, 3) := by decide +kernel
theorem dX8_readGrey_29 : dec mX8_readGrey 29 = .ok (.istore 4, 2) := by decide +kernel
theorem dX8_readGrey_31 : dec mX8_readGrey 31 = .ok (.iload 4, 2) := by decide +kernel
theorem dX8_readGrey_33 : dec mX8_readGrey 33 = .ok (.iconst (-1), 1) := by decide +kernel
theorem dX8_readGrey_34 : dec mX8_readGrey 34 = .ok (.if_icmp .eq 39, 3) := by decide +kernel
theorem dX8_readGrey_37 : dec mX8_readGrey 37 = .ok (.aload_n 0, 1) := by decide +kernel
theorem dX8_readGrey_38 : dec mX8_readGrey 38 = .ok (.aload_n 1, 1) := by decide +kernel
theorem dX8_readGrey_39 : dec mX8_readGrey 39 = .ok (.iload_n 2, 1) := by decide +kernel
theorem dX8_readGrey_40 : dec mX8_readGrey 40 = .ok (.iload_n 3, 1) := by decide +kernel
theorem dX8_readGrey_41 : dec mX8_readGrey 41 = .ok (.invokestatic 158, 3) := by decide +kernel
theorem dX8_readGrey_44 : dec mX8_readGrey 44 = .ok (.ifCond .eq 18, 3) := by decide +kernel
theorem dX8_readGrey_47 : dec mX8_readGrey 47 = .ok (.aload_n 1, 1) := by decide +kernel
theorem dX8_readGrey_48 : dec mX8_readGrey 48 = .ok (.iload_n 2, 1) := by decide +kernel
theorem dX8_readGrey_49 : dec mX8_readGrey 49 = .ok (.iload_n 3, 1) := by decide +kernel
theorem dX8_readGrey_50 : dec mX8_readGrey 50 = .ok (.iload 4, 2) := by decide +kernel
theorem dX8_readGrey_52 : dec mX8_readGrey 52 = .ok (.invokestatic 195, 3) := by decide +kernel
theorem dX8_readGrey_55 : dec mX8_readGrey 55 = .ok (.ifCond .lt 7, 3) := by decide +kernel
theorem dX8_readGrey_58 : dec mX8_readGrey 58 = .ok (.iconst 1, 1) := by decide +kernel
theorem dX8_readGrey_59 : dec mX8_readGrey 59 = .ok (.goto 4, 3) := by decide +kernel
theorem dX8_readGrey_62 : dec mX8_readGrey 62 = .ok (.iconst 0, 1) := by decide +kernel
theorem dX8_readGrey_63 : dec mX8_readGrey 63 = .ok (.invokevirtual 198, 3) := by decide +kernel
theorem dX8_readGrey_66 : dec mX8_readGrey 66 = .ok (.ifCond .eq 7, 3) := by decide +kernel
theorem dX8_readGrey_69 : dec mX8_readGrey 69 = .ok (.iconst 1, 1) := by decide +kernel
theorem dX8_readGrey_70 : dec mX8_readGrey 70 = .ok (.goto 4, 3) := by decide +kernel
theorem dX8_readGrey_73 : dec mX8_readGrey 73 = .ok (.iconst 0, 1) := by decide +kernel
theorem dX8_readGrey_74 : dec mX8_readGrey 74 = .ok (.ireturn, 1) := by decide +kernel
theorem dX8_readCommand_0 : dec mX8_readCommand 0 = .ok (.aload_n 0, 1) := by decide +kernel
theorem dX8_readCommand_1 : dec mX8_readCommand 1 = .ok (.getfield 7, 3) := by decide +kernel
theorem dX8_readCommand_4 : dec mX8_readCommand 4 = .ok (.aload_n 0, 1) := by decide +kernel
theorem dX8_readCommand_5 : dec mX8_readCommand 5 = .ok (.getfield 171, 3) := by decide +kernel
theorem dX8_readCommand_8 : dec mX8_readCommand 8 = .ok (.iaload, 1) := by decide +kernel
theorem dX8_readCommand_9 : dec mX8_readCommand 9 = .ok (.istore_n 2, 1) := by decide +kernel
theorem dX8_readCommand_10 : dec mX8_readCommand 10 = .ok (.aload_n 0, 1) := by decide +kernel
theorem dX8_readCommand_11 : dec mX8_readCommand 11 = .ok (.dup, 1) := by decide +kernel
theorem dX8_readCommand_12 : dec mX8_readCommand 12 = .ok (.getfield 171, 3) := by decide +kernel
theorem dX8_readCommand_15 : dec mX8_readCommand 15 = .ok (.iconst 1, 1) := by decide +kernel
theorem dX8_readCommand_16 : dec mX8_readCommand 16 = .ok (.iadd, 1) := by decide +kernel
theorem dX8_readCommand_17 : dec mX8_readCommand 17 = .ok (.putfield 171, 3) := by decide +kernel
theorem dX8_readCommand_20 : dec mX8_readCommand 20 = .ok (.iload_n 2, 1) := by decide +kernel
theorem dX8_readCommand_21 : dec mX8_readCommand 21 = .ok (.tableswitch 377 98 116 #[227, 377, 377, 377, 97, 377, 275, 335, 377, 377, 325, 377, 377, 377, 91, 377, 377, 179, 145], 91) := by decide +kernel
theorem dX8_readCommand_112 : dec mX8_readCommand 112 = .ok (.aload_n 0, 1) := by decide +kernel
theorem dX8_readCommand_113 : dec mX8_readCommand 113 = .ok (.aload_n 1, 1) := by decide +kernel
theorem dX8_readCommand_114 : dec mX8_readCommand 114 = .ok (.invokevirtual 202, 3) := by decide +kernel
theorem dX8_readCommand_117 : dec mX8_readCommand 117 = .ok (.ireturn, 1) := by decide +kernel
theorem dX8_readCommand_118 : dec mX8_readCommand 118 = .ok (.aload_n 0, 1) := by decide +kernel
theorem dX8_readCommand_119 : dec mX8_readCommand 119 = .ok (.iconst 0, 1) := by decide +kernel
theorem dX8_readCommand_120 : dec mX8_readCommand 120 = .ok (.iconst 2, 1) := by decide +kernel
theorem dX8_readCommand_121 : dec mX8_readCommand 121 = .ok (.iconst 0, 1) := by decide +kernel
theorem dX8_readCommand_122 : dec mX8_readCommand 122 = .ok (.bipush 99, 2) := by decide +kernel
theorem dX8_readCommand_124 : dec mX8_readCommand 124 = .ok (.invokevirtual 191, 3) := by decide +kernel
theorem dX8_readCommand_127 : dec mX8_readCommand 127 = .ok (.istore_n 3, 1) := by decide +kernel
theorem dX8_readCommand_128 : dec mX8_readCommand 128 = .ok (.aload_n 0, 1) := by decide +kernel
theorem dX8_readCommand_129 : dec mX8_readCommand 129 = .ok (.iload_n 3, 1) := by decide +kernel
theorem dX8_readCommand_130 : dec mX8_readCommand 130 = .ok (.iconst 2, 1) := by decide +kernel
theorem dX8_readCommand_131 : dec mX8_readCommand 131 = .ok (.iconst 0, 1) := by decide +kernel
theorem dX8_readCommand_132 : dec mX8_readCommand 132 = .ok (.bipush 99, 2) := by decide +kernel
theorem dX8_readCommand_134 : dec mX8_readCommand 134 = .ok (.invokevirtual 191, 3) := by decide +kernel
theorem dX8_readCommand_137 : dec mX8_readCommand 137 = .ok (.istore 4, 2) := by decide +kernel
theorem dX8_readCommand_139 : dec mX8_readCommand 139 = .ok (.iload 4, 2) := by decide +kernel
theorem dX8_readCommand_141 : dec mX8_readCommand 141 = .ok (.iconst (-1), 1) := by decide +kernel
theorem dX8_readCommand_142 : dec mX8_readCommand 142 = .ok (.if_icmp .eq 22, 3) := by decide +kernel
theorem dX8_readCommand_145 : dec mX8_readCommand 145 = .ok (.aload_n 0, 1) := by decide +kernel
theorem dX8_readCommand_146 : dec mX8_readCommand 146 = .ok (.aload_n 0, 1) := by decide +kernel
theorem dX8_readCommand_147 : dec mX8_readCommand 147 = .ok (.aload_n 1, 1) := by decide +kernel
theorem dX8_readCommand_148 : dec mX8_readCommand 148 = .ok (.iload_n 3, 1) := by decide +kernel
theorem dX8_readCommand_149 : dec mX8_readCommand 149 = .ok (.iload 4, 2) := by decide +kernel
theorem dX8_readCommand_151 : dec mX8_readCommand 151 = .ok (.invokevirtual 206, 3) := by decide +kernel
theorem dX8_readCommand_154 : dec mX8_readCommand 154 = .ok (.invokevirtual 198, 3) := by decide +kernel
theorem dX8_readCommand_157 : dec mX8_readCommand 157 = .ok (.ifCond .eq 7, 3) := by decide +kernel
theorem dX8_readCommand_160 : dec mX8_readCommand 160 = .ok (.iconst 1, 1) := by decide +kernel
theorem dX8_readCommand_161 : dec mX8_readCommand 161 = .ok (.goto 4, 3) := by decide +kernel
theorem dX8_readCommand_164 : dec mX8_readCommand 164 = .ok (.iconst 0, 1) := by decide +kernel
theorem dX8_readCommand_165 : dec mX8_readCommand 165 = .ok (.ireturn, 1) := by decide +kernel
theorem dX8_readCommand_166 : dec mX8_readCommand 166 = .ok (.aload_n 0, 1) := by decide +kernel
theorem dX8_readCommand_167 : dec mX8_readCommand 167 = .ok (.iconst 0, 1) := by decide +kernel
theorem dX8_readCommand_168 : dec mX8_readCommand 168 = .ok (.iconst 2, 1) := by decide +kernel
theorem dX8_readCommand_169 : dec mX8_readCommand 169 = .ok (.iconst 0, 1) := by decide +kernel
theorem dX8_readCommand_170 : dec mX8_readCommand 170 = .ok (.bipush 55, 2) := by decide +kernel
theorem dX8_readCommand_172 : dec mX8_readCommand 172 = .ok (.invokevirtual 191, 3) := by decide +kernel
theorem dX8_readCommand_175 : dec mX8_readCommand 175 = .ok (.istore_n 3, 1) := by decide +kernel
theorem dX8_readCommand_176 : dec mX8_readCommand 176 = .ok (.iload_n 3, 1) := by decide +kernel
theorem dX8_readCommand_177 : dec mX8_readCommand 177 = .ok (.iconst (-1), 1) := by decide +kernel
theorem dX8_readCommand_178 : dec mX8_readCommand 178 = .ok (.if_icmp .eq 20, 3) := by decide +kernel
theorem dX8_readCommand_181 : dec mX8_readCommand 181 = .ok (.aload_n 0, 1) := by decide +kernel
theorem dX8_readCommand_182 : dec mX8_readCommand 182 = .ok (.aload_n 0, 1) := by decide +kernel
theorem dX8_readCommand_183 : dec mX8_readCommand 183 = .ok (.aload_n 1, 1) := by decide +kernel
theorem dX8_readCommand_184 : dec mX8_readCommand 184 = .ok (.iload_n 3, 1) := by decide +kernel
theorem dX8_readCommand_185 : dec mX8_readCommand 185 = .ok (.invokevirtual 209, 3) := by decide +kernel
theorem dX8_readCommand_188 : dec mX8_readCommand 188 = .ok (.invokevirtual 198, 3) := by decide +kernel
theorem dX8_readCommand_191 : dec mX8_readCommand 191 = .ok (.ifCond .eq 7, 3) := by decide +kernel
theorem dX8_readCommand_194 : dec mX8_readCommand 194 = .ok (.iconst 1, 1) := by decide +kernel
theorem dX8_readCommand_195 : dec mX8_readCommand 195 = .ok (.goto 4, 3) := by decide +kernel
theorem dX8_readCommand_198 : dec mX8_readCommand 198 = .ok (.iconst 0, 1) := by decide +kernel
theorem dX8_readCommand_199 : dec mX8_readCommand 199 = .ok (.ireturn, 1) := by decide +kernel
theorem dX8_readCommand_200 : dec mX8_readCommand 200 = .ok (.aload_n 0, 1) := by decide +kernel
theorem dX8_readCommand_201 : dec mX8_readCommand 201 = .ok (.iconst 0, 1) := by decide +kernel
theorem dX8_readCommand_202 : dec mX8_readCommand 202 = .ok (.iconst 2, 1) := by decide +kernel
theorem dX8_readCommand_203 : dec mX8_readCommand 203 = .ok (.iconst 0, 1) := by decide +kernel
theorem dX8_readCommand_204 : dec mX8_readCommand 204 = .ok (.bipush 55, 2) := by decide +kernel
theorem dX8_readCommand_206 : dec mX8_readCommand 206 = .ok (.invokevirtual 191, 3) := by decide +kernel
theorem dX8_readCommand_209 : dec mX8_readCommand 209 = .ok (.istore_n 3, 1) := by decide +kernel
theorem dX8_readCommand_210 : dec mX8_readCommand 210 = .ok (.aload_n 0, 1) := by decide +kernel
theorem dX8_readCommand_211 : dec mX8_readCommand 211 = .ok (.iload_n 3, 1) := by decide +kernel
theorem dX8_readCommand_212 : dec mX8_readCommand 212 = .ok (.iconst 2, 1) := by decide +kernel
theorem dX8_readCommand_213 : dec mX8_readCommand 213 = .ok (.iconst 0, 1) := by decide +kernel
theorem dX8_readCommand_214 : dec mX8_readCommand 214 = .ok (.bipush 55, 2) := by decide +kernel
theorem dX8_readCommand_216 : dec mX8_readCommand 216 = .ok (.invokevirtual 191, 3) := by decide +kernel
theorem dX8_readCommand_219 : dec mX8_readCommand 219 = .ok (.istore 4, 2) := by decide +kernel
theorem dX8_readCommand_221 : dec mX8_readCommand 221 = .ok (.iload 4, 2) := by decide +kernel
theorem dX8_readCommand_223 : dec mX8_readCommand 223 = .ok (.iconst (-1), 1) := by decide +kernel
theorem dX8_readCommand_224 : dec mX8_readCommand 224 = .ok (.if_icmp .eq 22, 3) := by decide +kernel
theorem dX8_readCommand_227 : dec mX8_readCommand 227 = .ok (.aload_n 0, 1) := by decide +kernel
theorem dX8_readCommand_228 : dec mX8_readCommand 228 = .ok (.aload_n 0, 1) := by decide +kernel
theorem dX8_readCommand_229 : dec mX8_readCommand 229 = .ok (.aload_n 1, 1) := by decide +kernel
theorem dX8_readCommand_230 : dec mX8_readCommand 230 = .ok (.iload_n 3, 1) := by decide +kernel
theorem dX8_readCommand_231 : dec mX8_readCommand 231 = .ok (.iload 4, 2) := by decide +kernel
theorem dX8_readCommand_233 : dec mX8_readCommand 233 = .ok (.invokevirtual 212, 3) := by decide +kernel
theorem dX8_readCommand_236 : dec mX8_readCommand 236 = .ok (.invokevirtual 198, 3) := by decide +kernel
theorem dX8_readCommand_239 : dec mX8_readCommand 239 = .ok (.ifCond .eq 7, 3) := by decide +kernel
theorem dX8_readCommand_242 : dec mX8_readCommand 242 = .ok (.iconst 1, 1) := by decide +kernel
theorem dX8_readCommand_243 : dec mX8_readCommand 243 = .ok (.goto 4, 3) := by decide +kernel
theorem dX8_readCommand_246 : dec mX8_readCommand 246 = .ok (.iconst 0, 1) := by decide +kernel
theorem dX8_readCommand_247 : dec mX8_readCommand 247 = .ok (.ireturn, 1) := by decide +kernel
theorem dX8_readCommand_248 : dec mX8_readCommand 248 = .ok (.aload_n 0, 1) := by decide +kernel
theorem dX8_readCommand_249 : dec mX8_readCommand 249 = .ok (.iconst 0, 1) := by decide +kernel
theorem dX8_readCommand_250 : dec mX8_readCommand 250 = .ok (.iconst 1, 1) := by decide +kernel
theorem dX8_readCommand_251 : dec mX8_readCommand 251 = .ok (.iconst 0, 1) := by decide +kernel
theorem dX8_readCommand_252 : dec mX8_readCommand 252 = .ok (.bipush 7, 2) := by decide +kernel
theorem dX8_readCommand_254 : dec mX8_readCommand 254 = .ok (.invokevirtual 191, 3) := by decide +kernel
theorem dX8_readCommand_257 : dec mX8_readCommand 257 = .ok (.istore_n 3, 1) := by decide +kernel
theorem dX8_readCommand_258 : dec mX8_readCommand 258 = .ok (.aload_n 0, 1) := by decide +kernel
theorem dX8_readCommand_259 : dec mX8_readCommand 259 = .ok (.iload_n 3, 1) := by decide +kernel
theorem dX8_readCommand_260 : dec mX8_readCommand 260 = .ok (.iconst 2, 1) := by decide +kernel
theorem dX8_readCommand_261 : dec mX8_readCommand 261 = .ok (.iconst 0, 1) := by decide +kernel
theorem dX8_readCommand_262 : dec mX8_readCommand 262 = .ok (.bipush 13, 2) := by decide +kernel
theorem dX8_readCommand_264 : dec mX8_readCommand 264 = .ok (.invokevirtual 191, 3) := by decide +kernel
theorem dX8_readCommand_267 : dec mX8_readCommand 267 = .ok (.istore 4, 2) := by decide +kernel
theorem dX8_readCommand_269 : dec mX8_readCommand 269 = .ok (.iload 4, 2) := by decide +kernel
theorem dX8_readCommand_271 : dec mX8_readCommand 271 = .ok (.iconst (-1), 1) := by decide +kernel
theorem dX8_readCommand_272 : dec mX8_readCommand 272 = .ok (.if_icmp .eq 22, 3) := by decide +kernel
theorem dX8_readCommand_275 : dec mX8_readCommand 275 = .ok (.aload_n 0, 1) := by decide +kernel
theorem dX8_readCommand_276 : dec mX8_readCommand 276 = .ok (.aload_n 0, 1) := by decide +kernel
theorem dX8_readCommand_277 : dec mX8_readCommand 277 = .ok (.aload_n 1, 1) := by decide +kernel
theorem dX8_readCommand_278 : dec mX8_readCommand 278 = .ok (.iload_n 3, 1) := by decide +kernel
theorem dX8_readCommand_279 : dec mX8_readCommand 279 = .ok (.iload 4, 2) := by decide +kernel
theorem dX8_readCommand_281 : dec mX8_readCommand 281 = .ok (.invokevirtual 215, 3) := by decide +kernel
theorem dX8_readCommand_284 : dec mX8_readCommand 284 = .ok (.invokevirtual 198, 3) := by decide +kernel
theorem dX8_readCommand_287 : dec mX8_readCommand 287 = .ok (.ifCond .eq 7, 3) := by decide +kernel
theorem dX8_readCommand_290 : dec mX8_readCommand 290 = .ok (.iconst 1, 1) := by decide +kernel
theorem dX8_readCommand_291 : dec mX8_readCommand 291 = .ok (.goto 4, 3) := by decide +kernel
theorem dX8_readCommand_294 : dec mX8_readCommand 294 = .ok (.iconst 0, 1) := by decide +kernel
theorem dX8_readCommand_295 : dec mX8_readCommand 295 = .ok (.ireturn, 1) := by decide +kernel
theorem dX8_readCommand_296 : dec mX8_readCommand 296 = .ok (.aload_n 0, 1) := by decide +kernel
theorem dX8_readCommand_297 : dec mX8_readCommand 297 = .ok (.iconst 0, 1) := by decide +kernel
theorem dX8_readCommand_298 : dec mX8_readCommand 298 = .ok (.iconst 2, 1) := by decide +kernel
theorem dX8_readCommand_299 : dec mX8_readCommand 299 = .ok (.iconst 0, 1) := by decide +kernel
theorem dX8_readCommand_300 : dec mX8_readCommand 300 = .ok (.bipush 55, 2) := by decide +kernel
theorem dX8_readCommand_302 : dec mX8_readCommand 302 = .ok (.invokevirtual 191, 3) := by decide +kernel
theorem dX8_readCommand_305 : dec mX8_readCommand 305 = .ok (.istore_n 3, 1) := by decide +kernel
theorem dX8_readCommand_306 : dec mX8_readCommand 306 = .ok (.iload_n 3, 1) := by decide +kernel
theorem dX8_readCommand_307 : dec mX8_readCommand 307 = .ok (.iconst (-1), 1) := by decide +kernel
theorem dX8_readCommand_308 : dec mX8_readCommand 308 = .ok (.if_icmp .eq 36, 3) := by decide +kernel
theorem dX8_readCommand_311 : dec mX8_readCommand 311 = .ok (.aload_n 0, 1) := by decide +kernel
theorem dX8_readCommand_312 : dec mX8_readCommand 312 = .ok (.aload_n 1, 1) := by decide +kernel
theorem dX8_readCommand_313 : dec mX8_readCommand 313 = .ok (.iload_n 3, 1) := by decide +kernel
theorem dX8_readCommand_314 : dec mX8_readCommand 314 = .ok (.invokestatic 152, 3) := by decide +kernel
theorem dX8_readCommand_317 : dec mX8_readCommand 317 = .ok (.ifCond .eq 16, 3) := by decide +kernel
theorem dX8_readCommand_320 : dec mX8_readCommand 320 = .ok (.aload_n 1, 1) := by decide +kernel
theorem dX8_readCommand_321 : dec mX8_readCommand 321 = .ok (.iload_n 3, 1) := by decide +kernel
theorem dX8_readCommand_322 : dec mX8_readCommand 322 = .ok (.iconst 1, 1) := by decide +kernel
theorem dX8_readCommand_323 : dec mX8_readCommand 323 = .ok (.invokestatic 218, 3) := by decide +kernel
theorem dX8_readCommand_326 : dec mX8_readCommand 326 = .ok (.ifCond .le 7, 3) := by decide +kernel
theorem dX8_readCommand_329 : dec mX8_readCommand 329 = .ok (.iconst 1, 1) := by decide +kernel
theorem dX8_readCommand_330 : dec mX8_readCommand 330 = .ok (.goto 4, 3) := by decide +kernel
theorem dX8_readCommand_333 : dec mX8_readCommand 333 = .ok (.iconst 0, 1) := by decide +kernel
theorem dX8_readCommand_334 : dec mX8_readCommand 334 = .ok (.invokevirtual 198, 3) := by decide +kernel
theorem dX8_readCommand_337 : dec mX8_readCommand 337 = .ok (.ifCond .eq 7, 3) := by decide +kernel
theorem dX8_readCommand_340 : dec mX8_readCommand 340 = .ok (.iconst 1, 1) := by decide +kernel
theorem dX8_readCommand_341 : dec mX8_readCommand 341 = .ok (.goto 4, 3) := by decide +kernel
theorem dX8_readCommand_344 : dec mX8_readCommand 344 = .ok (.iconst 0, 1) := by decide +kernel
theorem dX8_readCommand_345 : dec mX8_readCommand 345 = .ok (.ireturn, 1) := by decide +kernel
theorem dX8_readCommand_346 : dec mX8_readCommand 346 = .ok (.aload_n 0, 1) := by decide +kernel
theorem dX8_readCommand_347 : dec mX8_readCommand 347 = .ok (.aload_n 0, 1) := by decide +kernel
theorem dX8_readCommand_348 : dec mX8_readCommand 348 = .ok (.aload_n 1, 1) := by decide +kernel
theorem dX8_readCommand_349 : dec mX8_readCommand 349 = .ok (.invokevirtual 222, 3) := by decide +kernel
theorem dX8_readCommand_352 : dec mX8_readCommand 352 = .ok (.invokevirtual 198, 3) := by decide +kernel
theorem dX8_readCommand_355 : dec mX8_readCommand 355 = .ok (.ireturn, 1) := by decide +kernel
theorem dX8_readCommand_356 : dec mX8_readCommand 356 = .ok (.aload_n 0, 1) := by decide +kernel
theorem dX8_readCommand_357 : dec mX8_readCommand 357 = .ok (.iconst 0, 1) := by decide +kernel
theorem dX8_readCommand_358 : dec mX8_readCommand 358 = .ok (.iconst 2, 1) := by decide +kernel
theorem dX8_readCommand_359 : dec mX8_readCommand 359 = .ok (.iconst 1, 1) := by decide +kernel
theorem dX8_readCommand_360 : dec mX8_readCommand 360 = .ok (.bipush 20, 2) := by decide +kernel
theorem dX8_readCommand_362 : dec mX8_readCommand 362 = .ok (.invokevirtual 191, 3) := by decide +kernel
theorem dX8_readCommand_365 : dec mX8_readCommand 365 = .ok (.istore_n 3, 1) := by decide +kernel
theorem dX8_readCommand_366 : dec mX8_readCommand 366 = .ok (.iload_n 3, 1) := by decide +kernel
theorem dX8_readCommand_367 : dec mX8_readCommand 367 = .ok (.iconst (-1), 1) := by decide +kernel
theorem dX8_readCommand_368 : dec mX8_readCommand 368 = .ok (.if_icmp .eq 28, 3) := by decide +kernel
theorem dX8_readCommand_371 : dec mX8_readCommand 371 = .ok (.aload_n 0, 1) := by decide +kernel
theorem dX8_readCommand_372 : dec mX8_readCommand 372 = .ok (.aload_n 0, 1) := by decide +kernel
theorem dX8_readCommand_373 : dec mX8_readCommand 373 = .ok (.aload_n 1, 1) := by decide +kernel
theorem dX8_readCommand_374 : dec mX8_readCommand 374 = .ok (.iload_n 3, 1) := by decide +kernel
theorem dX8_readCommand_375 : dec mX8_readCommand 375 = .ok (.invokevirtual 225, 3) := by decide +kernel
theorem dX8_readCommand_378 : dec mX8_readCommand 378 = .ok (.ifCond .lt 7, 3) := by decide +kernel
theorem dX8_readCommand_381 : dec mX8_readCommand 381 = .ok (.iconst 1, 1) := by decide +kernel
theorem dX8_readCommand_382 : dec mX8_readCommand 382 = .ok (.goto 4, 3) := by decide +kernel
theorem dX8_readCommand_385 : dec mX8_readCommand 385 = .ok (.iconst 0, 1) := by decide +kernel
theorem dX8_readCommand_386 : dec mX8_readCommand 386 = .ok (.invokevirtual 198, 3) := by decide +kernel
theorem dX8_readCommand_389 : dec mX8_readCommand 389 = .ok (.ifCond .eq 7, 3) := by decide +kernel
theorem dX8_readCommand_392 : dec mX8_readCommand 392 = .ok (.iconst 1, 1) := by decide +kernel
theorem dX8_readCommand_393 : dec mX8_readCommand 393 = .ok (.goto 4, 3) := by decide +kernel
theorem dX8_readCommand_396 : dec mX8_readCommand 396 = .ok (.iconst 0, 1) := by decide +kernel
theorem dX8_readCommand_397 : dec mX8_readCommand 397 = .ok (.ireturn, 1) := by decide +kernel
theorem dX8_readCommand_398 : dec mX8_readCommand 398 = .ok (.aload_n 0, 1) := by decide +kernel
theorem dX8_readCommand_399 : dec mX8_readCommand 399 = .ok (.dup, 1) := by decide +kernel
theorem dX8_readCommand_400 : dec mX8_readCommand 400 = .ok (.getfield 171, 3) := by decide +kernel
theorem dX8_readCommand_403 : dec mX8_readCommand 403 = .ok (.iconst 1, 1) := by decide +kernel
theorem dX8_readCommand_404 : dec mX8_readCommand 404 = .ok (.isub, 1) := by decide +kernel
theorem dX8_readCommand_405 : dec mX8_readCommand 405 = .ok (.putfield 171, 3) := by decide +kernel
theorem dX8_readCommand_408 : dec mX8_readCommand 408 = .ok (.iconst 0, 1) := by decide +kernel
theorem dX8_readCommand_409 : dec mX8_readCommand 409 = .ok (.ireturn, 1) := by decide +kernel
theorem dX8_readText_0 : dec mX8_readText 0 = .ok (.aload_n 0, 1) := by decide +kernel
theorem dX8_readText_1 : dec mX8_readText 1 = .ok (.iconst 0, 1) := by decide +kernel
theorem dX8_readText_2 : dec mX8_readText 2 = .ok (.putfield 176, 3) := by decide +kernel
theorem dX8_readText_5 : dec mX8_readText 5 = .ok (.aload_n 0, 1) := by decide +kernel
theorem dX8_readText_6 : dec mX8_readText 6 = .ok (.iconst 0, 1) := by decide +kernel
theorem dX8_readText_7 : dec mX8_readText 7 = .ok (.putfield 171, 3) := by decide +kernel
theorem dX8_readText_10 : dec mX8_readText 10 = .ok (.aload_n 0, 1) := by decide +kernel
theorem dX8_readText_11 : dec mX8_readText 11 = .ok (.getfield 164, 3) := by decide +kernel
theorem dX8_readText_14 : dec mX8_readText 14 = .ok (.ifCond .eq 14, 3) := by decide +kernel
theorem dX8_readText_17 : dec mX8_readText 17 = .ok (.aload_n 0, 1) := by decide +kernel
theorem dX8_readText_18 : dec mX8_readText 18 = .ok (.getfield 7, 3) := by decide +kernel
theorem dX8_readText_21 : dec mX8_readText 21 = .ok (.iconst 0, 1) := by decide +kernel
theorem dX8_readText_22 : dec mX8_readText 22 = .ok (.iaload, 1) := by decide +kernel
theorem dX8_readText_23 : dec mX8_readText 23 = .ok (.bipush 68, 2) := by decide +kernel
theorem dX8_readText_25 : dec mX8_readText 25 = .ok (.if_icmp .eq 5, 3) := by decide +kernel
theorem dX8_readText_28 : dec mX8_readText 28 = .ok (.iconst 0, 1) := by decide +kernel
theorem dX8_readText_29 : dec mX8_readText 29 = .ok (.ireturn, 1) := by decide +kernel
theorem dX8_readText_30 : dec mX8_readText 30 = .ok (.aload_n 0, 1) := by decide +kernel
theorem dX8_readText_31 : dec mX8_readText 31 = .ok (.iconst 1, 1) := by decide +kernel
theorem dX8_readText_32 : dec mX8_readText 32 = .ok (.putfield 171, 3) := by decide +kernel
theorem dX8_readText_35 : dec mX8_readText 35 = .ok (.aload_n 0, 1) := by decide +kernel
theorem dX8_readText_36 : dec mX8_readText 36 = .ok (.iconst 0, 1) := by decide +kernel
theorem dX8_readText_37 : dec mX8_readText 37 = .ok (.iconst 1, 1) := by decide +kernel
theorem dX8_readText_38 : dec mX8_readText 38 = .ok (.iconst 2, 1) := by decide +kernel
theorem dX8_readText_39 : dec mX8_readText 39 = .ok (.bipush 6, 2) := by decide +kernel
theorem dX8_readText_41 : dec mX8_readText 41 = .ok (.invokevirtual 191, 3) := by decide +kernel
theorem dX8_readText_44 : dec mX8_readText 44 = .ok (.istore_n 2, 1) := by decide +kernel
theorem dX8_readText_45 : dec mX8_readText 45 = .ok (.aload_n 0, 1) := by decide +kernel
theorem dX8_readText_46 : dec mX8_readText 46 = .ok (.iload_n 2, 1) := by decide +kernel
theorem dX8_readText_47 : dec mX8_readText 47 = .ok (.iconst 1, 1) := by decide +kernel
theorem dX8_readText_48 : dec mX8_readText 48 = .ok (.iconst 1, 1) := by decide +kernel
theorem dX8_readText_49 : dec mX8_readText 49 = .ok (.iconst 2, 1) := by decide +kernel
theorem dX8_readText_50 : dec mX8_readText 50 = .ok (.invokevirtual 191, 3) := by decide +kernel
theorem dX8_readText_53 : dec mX8_readText 53 = .ok (.istore_n 3, 1) := by decide +kernel
theorem dX8_readText_54 : dec mX8_readText 54 = .ok (.iload_n 3, 1) := by decide +kernel
theorem dX8_readText_55 : dec mX8_readText 55 = .ok (.iconst (-1), 1) := by decide +kernel
theorem dX8_readText_56 : dec mX8_readText 56 = .ok (.if_icmp .ne 8, 3) := by decide +kernel
theorem dX8_readText_59 : dec mX8_readText 59 = .ok (.aload_n 0, 1) := by decide +kernel
theorem dX8_readText_60 : dec mX8_readText 60 = .ok (.getfield 171, 3) := by decide +kernel
theorem dX8_readText_63 : dec mX8_readText 63 = .ok (.ireturn, 1) := by decide +kernel
theorem dX8_readText_64 : dec mX8_readText 64 = .ok (.aload_n 1, 1) := by decide +kernel
theorem dX8_readText_65 : dec mX8_readText 65 = .ok (.iload_n 2, 1) := by decide +kernel
theorem dX8_readText_66 : dec mX8_readText 66 = .ok (.iload_n 3, 1) := by decide +kernel
theorem dX8_readText_67 : dec mX8_readText 67 = .ok (.invokestatic 32, 3) := by decide +kernel
theorem dX8_readText_70 : dec mX8_readText 70 = .ok (.aload_n 0, 1) := by decide +kernel
theorem dX8_readText_71 : dec mX8_readText 71 = .ok (.getfield 171, 3) := by decide +kernel
theorem dX8_readText_74 : dec mX8_readText 74 = .ok (.aload_n 0, 1) := by decide +kernel
theorem dX8_readText_75 : dec mX8_readText 75 = .ok (.getfield 164, 3) := by decide +kernel
theorem dX8_readText_78 : dec mX8_readText 78 = .ok (.if_icmp .ge 16, 3) := by decide +kernel
theorem dX8_readText_81 : dec mX8_readText 81 = .ok (.aload_n 0, 1) := by decide +kernel
theorem dX8_readText_82 : dec mX8_readText 82 = .ok (.aload_n 1, 1) := by decide +kernel
theorem dX8_readText_83 : dec mX8_readText 83 = .ok (.invokevirtual 228, 3) := by decide +kernel
theorem dX8_readText_86 : dec mX8_readText 86 = .ok (.ifCond .ne (-16), 3) := by decide +kernel
theorem dX8_readText_89 : dec mX8_readText 89 = .ok (.aload_n 0, 1) := by decide +kernel
theorem dX8_readText_90 : dec mX8_readText 90 = .ok (.getfield 171, 3) := by decide +kernel
theorem dX8_readText_93 : dec mX8_readText 93 = .ok (.ireturn, 1) := by decide +kernel
theorem dX8_readText_94 : dec mX8_readText 94 = .ok (.iconst (-1), 1) := by decide +kernel
theorem dX8_readText_95 : dec mX8_readText 95 = .ok (.ireturn, 1) := by decide +kernel
theorem dX8_errorPosition_0 : dec mX8_errorPosition 0 = .ok (.aload_n 0, 1) := by decide +kernel
theorem dX8_errorPosition_1 : dec mX8_errorPosition 1 = .ok (.iconst 0, 1) := by decide +kernel
theorem dX8_errorPosition_2 : dec mX8_errorPosition 2 = .ok (.putfield 36, 3) := by decide +kernel
theorem dX8_errorPosition_5 : dec mX8_errorPosition 5 = .ok (.aload_n 0, 1) := by decide +kernel
theorem dX8_errorPosition_6 : dec mX8_errorPosition 6 = .ok (.aload_n 0, 1) := by decide +kernel
theorem dX8_errorPosition_7 : dec mX8_errorPosition 7 = .ok (.getfield 16, 3) := by decide +kernel
theorem dX8_errorPosition_10 : dec mX8_errorPosition 10 = .ok (.invokevirtual 231, 3) := by decide +kernel
theorem dX8_errorPosition_13 : dec mX8_errorPosition 13 = .ok (.ireturn, 1) := by decide +kernel
theorem dX8_load_0 : dec mX8_load 0 = .ok (.aload_n 0, 1) := by decide +kernel
theorem dX8_load_1 : dec mX8_load 1 = .ok (.aload_n 0, 1) := by decide +kernel
theorem dX8_load_2 : dec mX8_load 2 = .ok (.aload_n 0, 1) := by decide +kernel
theorem dX8_load_3 : dec mX8_load 3 = .ok (.getfield 16, 3) := by decide +kernel
theorem dX8_load_6 : dec mX8_load 6 = .ok (.invokevirtual 231, 3) := by decide +kernel
theorem dX8_load_9 : dec mX8_load 9 = .ok (.iconst (-1), 1) := by decide +kernel
theorem dX8_load_10 : dec mX8_load 10 = .ok (.if_icmp .ne 7, 3) := by decide +kernel
theorem dX8_load_13 : dec mX8_load 13 = .ok (.iconst 0, 1) := by decide +kernel
theorem dX8_load_14 : dec mX8_load 14 = .ok (.goto 4, 3) := by decide +kernel
theorem dX8_load_17 : dec mX8_load 17 = .ok (.iconst 1, 1) := by decide +kernel
theorem dX8_load_18 : dec mX8_load 18 = .ok (.invokevirtual 167, 3) := by decide +kernel
theorem dX8_load_21 : dec mX8_load 21 = .ok (.ifCond .eq 5, 3) := by decide +kernel
theorem dX8_load_24 : dec mX8_load 24 = .ok (.iconst 0, 1) := by decide +kernel
theorem dX8_load_25 : dec mX8_load 25 = .ok (.ireturn, 1) := by decide +kernel
theorem dX8_load_26 : dec mX8_load 26 = .ok (.aload_n 0, 1) := by decide +kernel
theorem dX8_load_27 : dec mX8_load 27 = .ok (.getfield 16, 3) := by decide +kernel
theorem dX8_load_30 : dec mX8_load 30 = .ok (.iconst 0, 1) := by decide +kernel
theorem dX8_load_31 : dec mX8_load 31 = .ok (.aload_n 0, 1) := by decide +kernel
theorem dX8_load_32 : dec mX8_load 32 = .ok (.getfield 13, 3) := by decide +kernel
theorem dX8_load_35 : dec mX8_load 35 = .ok (.iconst 0, 1) := by decide +kernel
theorem dX8_load_36 : dec mX8_load 36 = .ok (.invokestatic 234, 3) := by decide +kernel
theorem dX8_load_39 : dec mX8_load 39 = .ok (.aload_n 0, 1) := by decide +kernel
theorem dX8_load_40 : dec mX8_load 40 = .ok (.iconst 0, 1) := by decide +kernel
theorem dX8_load_41 : dec mX8_load 41 = .ok (.putfield 238, 3) := by decide +kernel
theorem dX8_load_44 : dec mX8_load 44 = .ok (.aload_n 0, 1) := by decide +kernel
theorem dX8_load_45 : dec mX8_load 45 = .ok (.getfield 25, 3) := by decide +kernel
theorem dX8_load_48 : dec mX8_load 48 = .ok (.iconst 0, 1) := by decide +kernel
theorem dX8_load_49 : dec mX8_load 49 = .ok (.iconst 0, 1) := by decide +kernel
theorem dX8_load_50 : dec mX8_load 50 = .ok (.bastore, 1) := by decide +kernel
theorem dX8_load_51 : dec mX8_load 51 = .ok (.aload_n 0, 1) := by decide +kernel
theorem dX8_load_52 : dec mX8_load 52 = .ok (.getfield 25, 3) := by decide +kernel
theorem dX8_load_55 : dec mX8_load 55 = .ok (.iconst 1, 1) := by decide +kernel
theorem dX8_load_56 : dec mX8_load 56 = .ok (.iconst 0, 1) := by decide +kernel
theorem dX8_load_57 : dec mX8_load 57 = .ok (.bastore, 1) := by decide +kernel
theorem dX8_load_58 : dec mX8_load 58 = .ok (.aload_n 0, 1) := by decide +kernel
theorem dX8_load_59 : dec mX8_load 59 = .ok (.getfield 176, 3) := by decide +kernel
theorem dX8_load_62 : dec mX8_load 62 = .ok (.ireturn, 1) := by decide +kernel
theorem dX8_about_0 : dec mX8_about 0 = .ok (.aload_n 0, 1) := by decide +kernel
theorem dX8_about_1 : dec mX8_about 1 = .ok (.iload_n 1, 1) := by decide +kernel
theorem dX8_about_2 : dec mX8_about 2 = .ok (.i2l, 1) := by decide +kernel
theorem dX8_about_3 : dec mX8_about 3 = .ok (.lconst 0, 1) := by decide +kernel
theorem dX8_about_4 : dec mX8_about 4 = .ok (.ldc2_w 241, 3) := by decide +kernel
theorem dX8_about_7 : dec mX8_about 7 = .ok (.invokestatic 50, 3) := by decide +kernel
theorem dX8_about_10 : dec mX8_about 10 = .ok (.ifCond .eq 7, 3) := by decide +kernel
theorem dX8_about_13 : dec mX8_about 13 = .ok (.iconst 0, 1) := by decide +kernel
theorem dX8_about_14 : dec mX8_about 14 = .ok (.goto 4, 3) := by decide +kernel
theorem dX8_about_17 : dec mX8_about 17 = .ok (.iconst 1, 1) := by decide +kernel
theorem dX8_about_18 : dec mX8_about 18 = .ok (.invokevirtual 167, 3) := by decide +kernel
theorem dX8_about_21 : dec mX8_about 21 = .ok (.ifCond .eq 5, 3) := by decide +kernel
theorem dX8_about_24 : dec mX8_about 24 = .ok (.iconst 0, 1) := by decide +kernel
theorem dX8_about_25 : dec mX8_about 25 = .ok (.ireturn, 1) := by decide +kernel
theorem dX8_about_26 : dec mX8_about 26 = .ok (.iconst 0, 1) := by decide +kernel
theorem dX8_about_27 : dec mX8_about 27 = .ok (.istore_n 2, 1) := by decide +kernel
theorem dX8_about_28 : dec mX8_about 28 = .ok (.iload_n 1, 1) := by decide +kernel
theorem dX8_about_29 : dec mX8_about 29 = .ok (.tableswitch 235 0 9 #[55, 55, 62, 70, 78, 86, 94, 136, 186, 194], 55) := by decide +kernel
theorem dX8_about_84 : dec mX8_about 84 = .ok (.aload_n 0, 1) := by decide +kernel
theorem dX8_about_85 : dec mX8_about 85 = .ok (.getfield 13, 3) := by decide +kernel
theorem dX8_about_88 : dec mX8_about 88 = .ok (.iload_n 1, 1) := by decide +kernel
theorem dX8_about_89 : dec mX8_about 89 = .ok (.iaload, 1) := by decide +kernel
theorem dX8_about_90 : dec mX8_about 90 = .ok (.ireturn, 1) := by decide +kernel
theorem dX8_about_91 : dec mX8_about 91 = .ok (.aload_n 0, 1) := by decide +kernel
theorem dX8_about_92 : dec mX8_about 92 = .ok (.getfield 13, 3) := by decide +kernel
theorem dX8_about_95 : dec mX8_about 95 = .ok (.invokestatic 40, 3) := by decide +kernel
theorem dX8_about_98 : dec mX8_about 98 = .ok (.ireturn, 1) := by decide +kernel
theorem dX8_about_99 : dec mX8_about 99 = .ok (.aload_n 0, 1) := by decide +kernel
theorem dX8_about_100 : dec mX8_about 100 = .ok (.getfield 13, 3) := by decide +kernel
theorem dX8_about_103 : dec mX8_about 103 = .ok (.invokestatic 44, 3) := by decide +kernel
theorem dX8_about_106 : dec mX8_about 106 = .ok (.ireturn, 1) := by decide +kernel
theorem dX8_about_107 : dec mX8_about 107 = .ok (.aload_n 0, 1) := by decide +kernel
theorem dX8_about_108 : dec mX8_about 108 = .ok (.getfield 13, 3) := by decide +kernel
theorem dX8_about_111 : dec mX8_about 111 = .ok (.invokestatic 54, 3) := by decide +kernel
theorem dX8_about_114 : dec mX8_about 114 = .ok (.ireturn, 1) := by decide +kernel
theorem dX8_about_115 : dec mX8_about 115 = .ok (.aload_n 0, 1) := by decide +kernel
theorem dX8_about_116 : dec mX8_about 116 = .ok (.getfield 13, 3) := by decide +kernel
theorem dX8_about_119 : dec mX8_about 119 = .ok (.invokestatic 146, 3) := by decide +kernel
theorem dX8_about_122 : dec mX8_about 122 = .ok (.ireturn, 1) := by decide +kernel
theorem dX8_about_123 : dec mX8_about 123 = .ok (.iconst 0, 1) := by decide +kernel
theorem dX8_about_124 : dec mX8_about 124 = .ok (.istore_n 3, 1) := by decide +kernel
theorem dX8_about_125 : dec mX8_about 125 = .ok (.iload_n 3, 1) := by decide +kernel
theorem dX8_about_126 : dec mX8_about 126 = .ok (.aload_n 0, 1) := by decide +kernel
theorem dX8_about_127 : dec mX8_about 127 = .ok (.getfield 13, 3) := by decide +kernel
theorem dX8_about_130 : dec mX8_about 130 = .ok (.invokestatic 47, 3) := by decide +kernel
theorem dX8_about_133 : dec mX8_about 133 = .ok (.if_icmp .ge 30, 3) := by decide +kernel
theorem dX8_about_136 : dec mX8_about 136 = .ok (.iload_n 2, 1) := by decide +kernel
theorem dX8_about_137 : dec mX8_about 137 = .ok (.aload_n 0, 1) := by decide +kernel
theorem dX8_about_138 : dec mX8_about 138 = .ok (.getfield 13, 3) := by decide +kernel
theorem dX8_about_141 : dec mX8_about 141 = .ok (.bipush 115, 2) := by decide +kernel
theorem dX8_about_143 : dec mX8_about 143 = .ok (.iload_n 3, 1) := by decide +kernel
theorem dX8_about_144 : dec mX8_about 144 = .ok (.iadd, 1) := by decide +kernel
theorem dX8_about_145 : dec mX8_about 145 = .ok (.iaload, 1) := by decide +kernel
theorem dX8_about_146 : dec mX8_about 146 = .ok (.iconst 1, 1) := by decide +kernel
theorem dX8_about_147 : dec mX8_about 147 = .ok (.if_icmp .ne 7, 3) := by decide +kernel
theorem dX8_about_150 : dec mX8_about 150 = .ok (.iconst 1, 1) := by decide +kernel
theorem dX8_about_151 : dec mX8_about 151 = .ok (.goto 4, 3) := by decide +kernel
theorem dX8_about_154 : dec mX8_about 154 = .ok (.iconst 0, 1) := by decide +kernel
theorem dX8_about_155 : dec mX8_about 155 = .ok (.iadd, 1) := by decide +kernel
theorem dX8_about_156 : dec mX8_about 156 = .ok (.istore_n 2, 1) := by decide +kernel
theorem dX8_about_157 : dec mX8_about 157 = .ok (.iinc 3 1, 3) := by decide +kernel
theorem dX8_about_160 : dec mX8_about 160 = .ok (.goto (-35), 3) := by decide +kernel
theorem dX8_about_163 : dec mX8_about 163 = .ok (.iload_n 2, 1) := by decide +kernel
theorem dX8_about_164 : dec mX8_about 164 = .ok (.ireturn, 1) := by decide +kernel
theorem dX8_about_165 : dec mX8_about 165 = .ok (.iconst 0, 1) := by decide +kernel
theorem dX8_about_166 : dec mX8_about 166 = .ok (.istore_n 3, 1) := by decide +kernel
theorem dX8_about_167 : dec mX8_about 167 = .ok (.iload_n 3, 1) := by decide +kernel
theorem dX8_about_168 : dec mX8_about 168 = .ok (.aload_n 0, 1) := by decide +kernel
theorem dX8_about_169 : dec mX8_about 169 = .ok (.getfield 13, 3) := by decide +kernel
theorem dX8_about_172 : dec mX8_about 172 = .ok (.invokestatic 47, 3) := by decide +kernel
theorem dX8_about_175 : dec mX8_about 175 = .ok (.if_icmp .ge 38, 3) := by decide +kernel
theorem dX8_about_178 : dec mX8_about 178 = .ok (.iload_n 2, 1) := by decide +kernel
theorem dX8_about_179 : dec mX8_about 179 = .ok (.aload_n 0, 1) := by decide +kernel
theorem dX8_about_180 : dec mX8_about 180 = .ok (.getfield 13, 3) := by decide +kernel
theorem dX8_about_183 : dec mX8_about 183 = .ok (.bipush 115, 2) := by decide +kernel
theorem dX8_about_185 : dec mX8_about 185 = .ok (.iload_n 3, 1) := by decide +kernel
theorem dX8_about_186 : dec mX8_about 186 = .ok (.iadd, 1) := by decide +kernel
theorem dX8_about_187 : dec mX8_about 187 = .ok (.iaload, 1) := by decide +kernel
theorem dX8_about_188 : dec mX8_about 188 = .ok (.ifCond .le 16, 3) := by decide +kernel
theorem dX8_about_191 : dec mX8_about 191 = .ok (.aload_n 0, 1) := by decide +kernel
theorem dX8_about_192 : dec mX8_about 192 = .ok (.getfield 13, 3) := by decide +kernel
theorem dX8_about_195 : dec mX8_about 195 = .ok (.sipush 339, 3) := by decide +kernel
theorem dX8_about_198 : dec mX8_about 198 = .ok (.iload_n 3, 1) := by decide +kernel
theorem dX8_about_199 : dec mX8_about 199 = .ok (.iadd, 1) := by decide +kernel
theorem dX8_about_200 : dec mX8_about 200 = .ok (.iaload, 1) := by decide +kernel
theorem dX8_about_201 : dec mX8_about 201 = .ok (.goto 4, 3) := by decide +kernel
theorem dX8_about_204 : dec mX8_about 204 = .ok (.iconst 0, 1) := by decide +kernel
theorem dX8_about_205 : dec mX8_about 205 = .ok (.iadd, 1) := by decide +kernel
theorem dX8_about_206 : dec mX8_about 206 = .ok (.istore_n 2, 1) := by decide +kernel
theorem dX8_about_207 : dec mX8_about 207 = .ok (.iinc 3 1, 3) := by decide +kernel
theorem dX8_about_210 : dec mX8_about 210 = .ok (.goto (-43), 3) := by decide +kernel
theorem dX8_about_213 : dec mX8_about 213 = .ok (.iload_n 2, 1) := by decide +kernel
theorem dX8_about_214 : dec mX8_about 214 = .ok (.ireturn, 1) := by decide +kernel
theorem dX8_about_215 : dec mX8_about 215 = .ok (.aload_n 0, 1) := by decide +kernel
theorem dX8_about_216 : dec mX8_about 216 = .ok (.getfield 13, 3) := by decide +kernel
theorem dX8_about_219 : dec mX8_about 219 = .ok (.invokestatic 149, 3) := by decide +kernel
theorem dX8_about_222 : dec mX8_about 222 = .ok (.ireturn, 1) := by decide +kernel
theorem dX8_about_223 : dec mX8_about 223 = .ok (.iconst 0, 1) := by decide +kernel
theorem dX8_about_224 : dec mX8_about 224 = .ok (.istore_n 3, 1) := by decide +kernel
theorem dX8_about_225 : dec mX8_about 225 = .ok (.iload_n 3, 1) := by decide +kernel
theorem dX8_about_226 : dec mX8_about 226 = .ok (.aload_n 0, 1) := by decide +kernel
theorem dX8_about_227 : dec mX8_about 227 = .ok (.getfield 13, 3) := by decide +kernel
theorem dX8_about_230 : dec mX8_about 230 = .ok (.invokestatic 47, 3) := by decide +kernel
theorem dX8_about_233 : dec mX8_about 233 = .ok (.if_icmp .ge 29, 3) := by decide +kernel
theorem dX8_about_236 : dec mX8_about 236 = .ok (.iload_n 2, 1) := by decide +kernel
theorem dX8_about_237 : dec mX8_about 237 = .ok (.aload_n 0, 1) := by decide +kernel
theorem dX8_about_238 : dec mX8_about 238 = .ok (.getfield 13, 3) := by decide +kernel
theorem dX8_about_241 : dec mX8_about 241 = .ok (.iload_n 3, 1) := by decide +kernel
theorem dX8_about_242 : dec mX8_about 242 = .ok (.invokestatic 91, 3) := by decide +kernel
theorem dX8_about_245 : dec mX8_about 245 = .ok (.iconst (-1), 1) := by decide +kernel
theorem dX8_about_246 : dec mX8_about 246 = .ok (.if_icmp .eq 7, 3) := by decide +kernel
theorem dX8_about_249 : dec mX8_about 249 = .ok (.iconst 1, 1) := by decide +kernel
theorem dX8_about_250 : dec mX8_about 250 = .ok (.goto 4, 3) := by decide +kernel
theorem dX8_about_253 : dec mX8_about 253 = .ok (.iconst 0, 1) := by decide +kernel
theorem dX8_about_254 : dec mX8_about 254 = .ok (.iadd, 1) := by decide +kernel
theorem dX8_about_255 : dec mX8_about 255 = .ok (.istore_n 2, 1) := by decide +kernel
theorem dX8_about_256 : dec mX8_about 256 = .ok (.iinc 3 1, 3) := by decide +kernel
theorem dX8_about_259 : dec mX8_about 259 = .ok (.goto (-34), 3) := by decide +kernel
theorem dX8_about_262 : dec mX8_about 262 = .ok (.iload_n 2, 1) := by decide +kernel
theorem dX8_about_263 : dec mX8_about 263 = .ok (.ireturn, 1) := by decide +kernel
theorem dX8_about_264 : dec mX8_about 264 = .ok (.aload_n 0, 1) := by decide +kernel
theorem dX8_about_265 : dec mX8_about 265 = .ok (.getfield 13, 3) := by decide +kernel
theorem dX8_about_268 : dec mX8_about 268 = .ok (.iconst 2, 1) := by decide +kernel
theorem dX8_about_269 : dec mX8_about 269 = .ok (.iaload, 1) := by decide +kernel
theorem dX8_about_270 : dec mX8_about 270 = .ok (.ireturn, 1) := by decide +kernel
theorem dX8_square_0 : dec mX8_square 0 = .ok (.aload_n 0, 1) := by decide +kernel
theorem dX8_square_1 : dec mX8_square 1 = .ok (.aload_n 0, 1) := by decide +kernel
theorem dX8_square_2 : dec mX8_square 2 = .ok (.getfield 13, 3) := by decide +kernel
theorem dX8_square_5 : dec mX8_square 5 = .ok (.iload_n 1, 1) := by decide +kernel
theorem dX8_square_6 : dec mX8_square 6 = .ok (.iload_n 2, 1) := by decide +kernel
theorem dX8_square_7 : dec mX8_square 7 = .ok (.invokestatic 158, 3) := by decide +kernel
theorem dX8_square_10 : dec mX8_square 10 = .ok (.ifCond .ne 7, 3) := by decide +kernel
theorem dX8_square_13 : dec mX8_square 13 = .ok (.iconst 1, 1) := by decide +kernel
theorem dX8_square_14 : dec mX8_square 14 = .ok (.goto 20, 3) := by decide +kernel
theorem dX8_square_17 : dec mX8_square 17 = .ok (.iload_n 3, 1) := by decide +kernel
theorem dX8_square_18 : dec mX8_square 18 = .ok (.i2l, 1) := by decide +kernel
theorem dX8_square_19 : dec mX8_square 19 = .ok (.lconst 0, 1) := by decide +kernel
theorem dX8_square_20 : dec mX8_square 20 = .ok (.ldc2_w 243, 3) := by decide +kernel
theorem dX8_square_23 : dec mX8_square 23 = .ok (.invokestatic 50, 3) := by decide +kernel
theorem dX8_square_26 : dec mX8_square 26 = .ok (.ifCond .eq 7, 3) := by decide +kernel
theorem dX8_square_29 : dec mX8_square 29 = .ok (.iconst 0, 1) := by decide +kernel
theorem dX8_square_30 : dec mX8_square 30 = .ok (.goto 4, 3) := by decide +kernel
theorem dX8_square_33 : dec mX8_square 33 = .ok (.iconst 2, 1) := by decide +kernel
theorem dX8_square_34 : dec mX8_square 34 = .ok (.invokevirtual 167, 3) := by decide +kernel
theorem dX8_square_37 : dec mX8_square 37 = .ok (.ifCond .eq 5, 3) := by decide +kernel
theorem dX8_square_40 : dec mX8_square 40 = .ok (.iconst 0, 1) := by decide +kernel
theorem dX8_square_41 : dec mX8_square 41 = .ok (.ireturn, 1) := by decide +kernel
theorem dX8_square_42 : dec mX8_square 42 = .ok (.aload_n 0, 1) := by decide +kernel
theorem dX8_square_43 : dec mX8_square 43 = .ok (.getfield 13, 3) := by decide +kernel
theorem dX8_square_46 : dec mX8_square 46 = .ok (.invokestatic 40, 3) := by decide +kernel
theorem dX8_square_49 : dec mX8_square 49 = .ok (.iload_n 2, 1) := by decide +kernel
theorem dX8_square_50 : dec mX8_square 50 = .ok (.imul, 1) := by decide +kernel
theorem dX8_square_51 : dec mX8_square 51 = .ok (.iload_n 1, 1) := by decide +kernel
theorem dX8_square_52 : dec mX8_square 52 = .ok (.iadd, 1) := by decide +kernel
theorem dX8_square_53 : dec mX8_square 53 = .ok (.istore 4, 2) := by decide +kernel
theorem dX8_square_55 : dec mX8_square 55 = .ok (.aload_n 0, 1) := by decide +kernel
theorem dX8_square_56 : dec mX8_square 56 = .ok (.getfield 13, 3) := by decide +kernel
theorem dX8_square_59 : dec mX8_square 59 = .ok (.iload 4, 2) := by decide +kernel
theorem dX8_square_61 : dec mX8_square 61 = .ok (.invokestatic 245, 3) := by decide +kernel
theorem dX8_square_64 : dec mX8_square 64 = .ok (.istore 5, 2) := by decide +kernel
theorem dX8_square_66 : dec mX8_square 66 = .ok (.iload_n 3, 1) := by decide +kernel
theorem dX8_square_67 : dec mX8_square 67 = .ok (.ifCond .ne 15, 3) := by decide +kernel
theorem dX8_square_70 : dec mX8_square 70 = .ok (.aload_n 0, 1) := by decide +kernel
theorem dX8_square_71 : dec mX8_square 71 = .ok (.getfield 13, 3) := by decide +kernel
theorem dX8_square_74 : dec mX8_square 74 = .ok (.iconst 3, 1) := by decide +kernel
theorem dX8_square_75 : dec mX8_square 75 = .ok (.iload 4, 2) := by decide +kernel
theorem dX8_square_77 : dec mX8_square 77 = .ok (.iadd, 1) := by decide +kernel
theorem dX8_square_78 : dec mX8_square 78 = .ok (.iaload, 1) := by decide +kernel
theorem dX8_square_79 : dec mX8_square 79 = .ok (.goto 58, 3) := by decide +kernel
theorem dX8_square_82 : dec mX8_square 82 = .ok (.iload_n 3, 1) := by decide +kernel
theorem dX8_square_83 : dec mX8_square 83 = .ok (.iconst 1, 1) := by decide +kernel
theorem dX8_square_84 : dec mX8_square 84 = .ok (.if_icmp .ne 15, 3) := by decide +kernel
theorem dX8_square_87 : dec mX8_square 87 = .ok (.aload_n 0, 1) := by decide +kernel
theorem dX8_square_88 : dec mX8_square 88 = .ok (.getfield 13, 3) := by decide +kernel
theorem dX8_square_91 : dec mX8_square 91 = .ok (.iload 5, 2) := by decide +kernel
theorem dX8_square_93 : dec mX8_square 93 = .ok (.invokestatic 57, 3) := by decide +kernel
theorem dX8_square_96 : dec mX8_square 96 = .ok (.goto 41, 3) := by decide +kernel
theorem dX8_square_99 : dec mX8_square 99 = .ok (.iload_n 3, 1) := by decide +kernel
theorem dX8_square_100 : dec mX8_square 100 = .ok (.iconst 2, 1) := by decide +kernel
theorem dX8_square_101 : dec mX8_square 101 = .ok (.if_icmp .ne 17, 3) := by decide +kernel
theorem dX8_square_104 : dec mX8_square 104 = .ok (.aload_n 0, 1) := by decide +kernel
theorem dX8_square_105 : dec mX8_square 105 = .ok (.getfield 13, 3) := by decide +kernel
theorem dX8_square_108 : dec mX8_square 108 = .ok (.iload 4, 2) := by decide +kernel
theorem dX8_square_110 : dec mX8_square 110 = .ok (.iload 5, 2) := by decide +kernel
theorem dX8_square_112 : dec mX8_square 112 = .ok (.invokestatic 67, 3) := by decide +kernel
theorem dX8_square_115 : dec mX8_square 115 = .ok (.goto 22, 3) := by decide +kernel
theorem dX8_square_118 : dec mX8_square 118 = .ok (.iload_n 3, 1) := by decide +kernel
theorem dX8_square_119 : dec mX8_square 119 = .ok (.iconst 3, 1) := by decide +kernel
theorem dX8_square_120 : dec mX8_square 120 = .ok (.if_icmp .ne 15, 3) := by decide +kernel
theorem dX8_square_123 : dec mX8_square 123 = .ok (.aload_n 0, 1) := by decide +kernel
theorem dX8_square_124 : dec mX8_square 124 = .ok (.getfield 13, 3) := by decide +kernel
theorem dX8_square_127 : dec mX8_square 127 = .ok (.iload 4, 2) := by decide +kernel
theorem dX8_square_129 : dec mX8_square 129 = .ok (.invokestatic 248, 3) := by decide +kernel
theorem dX8_square_132 : dec mX8_square 132 = .ok (.goto 5, 3) := by decide +kernel
theorem dX8_square_135 : dec mX8_square 135 = .ok (.iload 5, 2) := by decide +kernel
theorem dX8_square_137 : dec mX8_square 137 = .ok (.ireturn, 1) := by decide +kernel
theorem dX8_place_0 : dec mX8_place 0 = .ok (.aload_n 0, 1) := by decide +kernel
theorem dX8_place_1 : dec mX8_place 1 = .ok (.aload_n 0, 1) := by decide +kernel
theorem dX8_place_2 : dec mX8_place 2 = .ok (.getfield 13, 3) := by decide +kernel
theorem dX8_place_5 : dec mX8_place 5 = .ok (.iload_n 1, 1) := by decide +kernel
theorem dX8_place_6 : dec mX8_place 6 = .ok (.invokestatic 152, 3) := by decide +kernel
theorem dX8_place_9 : dec mX8_place 9 = .ok (.ifCond .ne 7, 3) := by decide +kernel
theorem dX8_place_12 : dec mX8_place 12 = .ok (.iconst 1, 1) := by decide +kernel
theorem dX8_place_13 : dec mX8_place 13 = .ok (.goto 20, 3) := by decide +kernel
theorem dX8_place_16 : dec mX8_place 16 = .ok (.iload_n 2, 1) := by decide +kernel
theorem dX8_place_17 : dec mX8_place 17 = .ok (.i2l, 1) := by decide +kernel
theorem dX8_place_18 : dec mX8_place 18 = .ok (.lconst 0, 1) := by decide +kernel
theorem dX8_place_19 : dec mX8_place 19 = .ok (.ldc2_w 251, 3) := by decide +kernel
theorem dX8_place_22 : dec mX8_place 22 = .ok (.invokestatic 50, 3) := by decide +kernel
theorem dX8_place_25 : dec mX8_place 25 = .ok (.ifCond .eq 7, 3) := by decide +kernel
theorem dX8_place_28 : dec mX8_place 28 = .ok (.iconst 0, 1) := by decide +kernel
theorem dX8_place_29 : dec mX8_place 29 = .ok (.goto 4, 3) := by decide +kernel
theorem dX8_place_32 : dec mX8_place 32 = .ok (.iconst 2, 1) := by decide +kernel
theorem dX8_place_33 : dec mX8_place 33 = .ok (.invokevirtual 167, 3) := by decide +kernel
theorem dX8_place_36 : dec mX8_place 36 = .ok (.ifCond .eq 5, 3) := by decide +kernel
theorem dX8_place_39 : dec mX8_place 39 = .ok (.iconst 0, 1) := by decide +kernel
theorem dX8_place_40 : dec mX8_place 40 = .ok (.ireturn, 1) := by decide +kernel
theorem dX8_place_41 : dec mX8_place 41 = .ok (.aload_n 0, 1) := by decide +kernel
theorem dX8_place_42 : dec mX8_place 42 = .ok (.getfield 13, 3) := by decide +kernel
theorem dX8_place_45 : dec mX8_place 45 = .ok (.iload_n 1, 1) := by decide +kernel
theorem dX8_place_46 : dec mX8_place 46 = .ok (.invokestatic 123, 3) := by decide +kernel
theorem dX8_place_49 : dec mX8_place 49 = .ok (.istore_n 3, 1) := by decide +kernel
theorem dX8_place_50 : dec mX8_place 50 = .ok (.iload_n 2, 1) := by decide +kernel
theorem dX8_place_51 : dec mX8_place 51 = .ok (.tableswitch 90 0 5 #[37, 39, 48, 59, 70, 79], 37) := by decide +kernel
theorem dX8_place_88 : dec mX8_place 88 = .ok (.iload_n 3, 1) := by decide +kernel
theorem dX8_place_89 : dec mX8_place 89 = .ok (.ireturn, 1) := by decide +kernel
theorem dX8_place_90 : dec mX8_place 90 = .ok (.aload_n 0, 1) := by decide +kernel
theorem dX8_place_91 : dec mX8_place 91 = .ok (.getfield 13, 3) := by decide +kernel
theorem dX8_place_94 : dec mX8_place 94 = .ok (.iload_n 3, 1) := by decide +kernel
theorem dX8_place_95 : dec mX8_place 95 = .ok (.invokestatic 82, 3) := by decide +kernel
theorem dX8_place_98 : dec mX8_place 98 = .ok (.ireturn, 1) := by decide +kernel
theorem dX8_place_99 : dec mX8_place 99 = .ok (.aload_n 0, 1) := by decide +kernel
theorem dX8_place_100 : dec mX8_place 100 = .ok (.getfield 13, 3) := by decide +kernel
theorem dX8_place_103 : dec mX8_place 103 = .ok (.sipush 227, 3) := by decide +kernel
theorem dX8_place_106 : dec mX8_place 106 = .ok (.iload_n 3, 1) := by decide +kernel
theorem dX8_place_107 : dec mX8_place 107 = .ok (.iadd, 1) := by decide +kernel
theorem dX8_place_108 : dec mX8_place 108 = .ok (.iaload, 1) := by decide +kernel
theorem dX8_place_109 : dec mX8_place 109 = .ok (.ireturn, 1) := by decide +kernel
theorem dX8_place_110 : dec mX8_place 110 = .ok (.aload_n 0, 1) := by decide +kernel
theorem dX8_place_111 : dec mX8_place 111 = .ok (.getfield 13, 3) := by decide +kernel
theorem dX8_place_114 : dec mX8_place 114 = .ok (.sipush 339, 3) := by decide +kernel
theorem dX8_place_117 : dec mX8_place 117 = .ok (.iload_n 3, 1) := by decide +kernel
theorem dX8_place_118 : dec mX8_place 118 = .ok (.iadd, 1) := by decide +kernel
theorem dX8_place_119 : dec mX8_place 119 = .ok (.iaload, 1) := by decide +kernel
theorem dX8_place_120 : dec mX8_place 120 = .ok (.ireturn, 1) := by decide +kernel
theorem dX8_place_121 : dec mX8_place 121 = .ok (.aload_n 0, 1) := by decide +kernel
theorem dX8_place_122 : dec mX8_place 122 = .ok (.getfield 13, 3) := by decide +kernel
theorem dX8_place_125 : dec mX8_place 125 = .ok (.iload_n 3, 1) := by decide +kernel
theorem dX8_place_126 : dec mX8_place 126 = .ok (.invokestatic 85, 3) := by decide +kernel
theorem dX8_place_129 : dec mX8_place 129 = .ok (.ireturn, 1) := by decide +kernel
theorem dX8_place_130 : dec mX8_place 130 = .ok (.aload_n 0, 1) := by decide +kernel
theorem dX8_place_131 : dec mX8_place 131 = .ok (.getfield 13, 3) := by decide +kernel
theorem dX8_place_134 : dec mX8_place 134 = .ok (.sipush 451, 3) := by decide +kernel
theorem dX8_place_137 : dec mX8_place 137 = .ok (.iload_n 3, 1) := by decide +kernel
theorem dX8_place_138 : dec mX8_place 138 = .ok (.iadd, 1) := by decide +kernel
theorem dX8_place_139 : dec mX8_place 139 = .ok (.iaload, 1) := by decide +kernel
theorem dX8_place_140 : dec mX8_place 140 = .ok (.ireturn, 1) := by decide +kernel
theorem dX8_place_141 : dec mX8_place 141 = .ok (.aload_n 0, 1) := by decide +kernel
theorem dX8_place_142 : dec mX8_place 142 = .ok (.getfield 13, 3) := by decide +kernel
theorem dX8_place_145 : dec mX8_place 145 = .ok (.bipush 115, 2) := by decide +kernel
theorem dX8_place_147 : dec mX8_place 147 = .ok (.iload_n 3, 1) := by decide +kernel
theorem dX8_place_148 : dec mX8_place 148 = .ok (.iadd, 1) := by decide +kernel
theorem dX8_place_149 : dec mX8_place 149 = .ok (.iaload, 1) := by decide +kernel
theorem dX8_place_150 : dec mX8_place 150 = .ok (.iconst 1, 1) := by decide +kernel
theorem dX8_place_151 : dec mX8_place 151 = .ok (.if_icmp .ne 7, 3) := by decide +kernel
theorem dX8_place_154 : dec mX8_place 154 = .ok (.iconst 1, 1) := by decide +kernel
theorem dX8_place_155 : dec mX8_place 155 = .ok (.goto 4, 3) := by decide +kernel
theorem dX8_place_158 : dec mX8_place 158 = .ok (.iconst 0, 1) := by decide +kernel
theorem dX8_place_159 : dec mX8_place 159 = .ok (.ireturn, 1) := by decide +kernel
theorem dX8_whereLies_0 : dec mX8_whereLies 0 = .ok (.iconst 0, 1) := by decide +kernel
theorem dX8_whereLies_1 : dec mX8_whereLies 1 = .ok (.istore_n 2, 1) := by decide +kernel
theorem dX8_whereLies_2 : dec mX8_whereLies 2 = .ok (.iconst 0, 1) := by decide +kernel
theorem dX8_whereLies_3 : dec mX8_whereLies 3 = .ok (.istore_n 3, 1) := by decide +kernel
theorem dX8_whereLies_4 : dec mX8_whereLies 4 = .ok (.iload_n 3, 1) := by decide +kernel
theorem dX8_whereLies_5 : dec mX8_whereLies 5 = .ok (.aload_n 0, 1) := by decide +kernel
theorem dX8_whereLies_6 : dec mX8_whereLies 6 = .ok (.invokestatic 47, 3) := by decide +kernel
theorem dX8_whereLies_9 : dec mX8_whereLies 9 = .ok (.if_icmp .ge 34, 3) := by decide +kernel
theorem dX8_whereLies_12 : dec mX8_whereLies 12 = .ok (.aload_n 0, 1) := by decide +kernel
theorem dX8_whereLies_13 : dec mX8_whereLies 13 = .ok (.bipush 115, 2) := by decide +kernel
theorem dX8_whereLies_15 : dec mX8_whereLies 15 = .ok (.iload_n 3, 1) := by decide +kernel
theorem dX8_whereLies_16 : dec mX8_whereLies 16 = .ok (.iadd, 1) := by decide +kernel
theorem dX8_whereLies_17 : dec mX8_whereLies 17 = .ok (.iaload, 1) := by decide +kernel
theorem dX8_whereLies_18 : dec mX8_whereLies 18 = .ok (.ifCond .le 19, 3) := by decide +kernel
theorem dX8_whereLies_21 : dec mX8_whereLies 21 = .ok (.aload_n 0, 1) := by decide +kernel
theorem dX8_whereLies_22 : dec mX8_whereLies 22 = .ok (.sipush 227, 3) := by decide +kernel
theorem dX8_whereLies_25 : dec mX8_whereLies 25 = .ok (.iload_n 3, 1) := by decide +kernel
theorem dX8_whereLies_26 : dec mX8_whereLies 26 = .ok (.iadd, 1) := by decide +kernel
theorem dX8_whereLies_27 : dec mX8_whereLies 27 = .ok (.iaload, 1) := by decide +kernel
theorem dX8_whereLies_28 : dec mX8_whereLies 28 = .ok (.iload_n 1, 1) := by decide +kernel
theorem dX8_whereLies_29 : dec mX8_whereLies 29 = .ok (.if_icmp .ne 5, 3) := by decide +kernel
theorem dX8_whereLies_32 : dec mX8_whereLies 32 = .ok (.iload_n 2, 1) := by decide +kernel
theorem dX8_whereLies_33 : dec mX8_whereLies 33 = .ok (.ireturn, 1) := by decide +kernel
theorem dX8_whereLies_34 : dec mX8_whereLies 34 = .ok (.iinc 2 1, 3) := by decide +kernel
theorem dX8_whereLies_37 : dec mX8_whereLies 37 = .ok (.iinc 3 1, 3) := by decide +kernel
theorem dX8_whereLies_40 : dec mX8_whereLies 40 = .ok (.goto (-36), 3) := by decide +kernel
theorem dX8_whereLies_43 : dec mX8_whereLies 43 = .ok (.iconst (-1), 1) := by decide +kernel
theorem dX8_whereLies_44 : dec mX8_whereLies 44 = .ok (.ireturn, 1) := by decide +kernel
theorem dX8_tile_0 : dec mX8_tile 0 = .ok (.aload_n 0, 1) := by decide +kernel
theorem dX8_tile_1 : dec mX8_tile 1 = .ok (.aload_n 0, 1) := by decide +kernel
theorem dX8_tile_2 : dec mX8_tile 2 = .ok (.getfield 13, 3) := by decide +kernel
theorem dX8_tile_5 : dec mX8_tile 5 = .ok (.iload_n 1, 1) := by decide +kernel
theorem dX8_tile_6 : dec mX8_tile 6 = .ok (.invokestatic 152, 3) := by decide +kernel
theorem dX8_tile_9 : dec mX8_tile 9 = .ok (.ifCond .ne 7, 3) := by decide +kernel
theorem dX8_tile_12 : dec mX8_tile 12 = .ok (.iconst 1, 1) := by decide +kernel
theorem dX8_tile_13 : dec mX8_tile 13 = .ok (.goto 20, 3) := by decide +kernel
theorem dX8_tile_16 : dec mX8_tile 16 = .ok (.iload_n 2, 1) := by decide +kernel
theorem dX8_tile_17 : dec mX8_tile 17 = .ok (.i2l, 1) := by decide +kernel
theorem dX8_tile_18 : dec mX8_tile 18 = .ok (.lconst 0, 1) := by decide +kernel
theorem dX8_tile_19 : dec mX8_tile 19 = .ok (.ldc2_w 253, 3) := by decide +kernel
theorem dX8_tile_22 : dec mX8_tile 22 = .ok (.invokestatic 50, 3) := by decide +kernel
theorem dX8_tile_25 : dec mX8_tile 25 = .ok (.ifCond .eq 7, 3) := by decide +kernel
theorem dX8_tile_28 : dec mX8_tile 28 = .ok (.iconst 0, 1) := by decide +kernel
theorem dX8_tile_29 : dec mX8_tile 29 = .ok (.goto 4, 3) := by decide +kernel
theorem dX8_tile_32 : dec mX8_tile 32 = .ok (.iconst 2, 1) := by decide +kernel
theorem dX8_tile_33 : dec mX8_tile 33 = .ok (.invokevirtual 167, 3) := by decide +kernel
theorem dX8_tile_36 : dec mX8_tile 36 = .ok (.ifCond .eq 5, 3) := by decide +kernel
theorem dX8_tile_39 : dec mX8_tile 39 = .ok (.iconst 0, 1) := by decide +kernel
theorem dX8_tile_40 : dec mX8_tile 40 = .ok (.ireturn, 1) := by decide +kernel
theorem dX8_tile_41 : dec mX8_tile 41 = .ok (.iload_n 2, 1) := by decide +kernel
theorem dX8_tile_42 : dec mX8_tile 42 = .ok (.ifCond .ne 14, 3) := by decide +kernel
theorem dX8_tile_45 : dec mX8_tile 45 = .ok (.aload_n 0, 1) := by decide +kernel
theorem dX8_tile_46 : dec mX8_tile 46 = .ok (.getfield 13, 3) := by decide +kernel
theorem dX8_tile_49 : dec mX8_tile 49 = .ok (.iload_n 1, 1) := by decide +kernel
theorem dX8_tile_50 : dec mX8_tile 50 = .ok (.invokestatic 64, 3) := by decide +kernel
theorem dX8_tile_53 : dec mX8_tile 53 = .ok (.goto 27, 3) := by decide +kernel
theorem dX8_tile_56 : dec mX8_tile 56 = .ok (.iload_n 2, 1) := by decide +kernel
theorem dX8_tile_57 : dec mX8_tile 57 = .ok (.iconst 1, 1) := by decide +kernel
theorem dX8_tile_58 : dec mX8_tile 58 = .ok (.if_icmp .ne 14, 3) := by decide +kernel
theorem dX8_tile_61 : dec mX8_tile 61 = .ok (.aload_n 0, 1) := by decide +kernel
theorem dX8_tile_62 : dec mX8_tile 62 = .ok (.getfield 13, 3) := by decide +kernel
theorem dX8_tile_65 : dec mX8_tile 65 = .ok (.iload_n 1, 1) := by decide +kernel
theorem dX8_tile_66 : dec mX8_tile 66 = .ok (.invokestatic 61, 3) := by decide +kernel
theorem dX8_tile_69 : dec mX8_tile 69 = .ok (.goto 11, 3) := by decide +kernel
theorem dX8_tile_72 : dec mX8_tile 72 = .ok (.aload_n 0, 1) := by decide +kernel
theorem dX8_tile_73 : dec mX8_tile 73 = .ok (.getfield 13, 3) := by decide +kernel
theorem dX8_tile_76 : dec mX8_tile 76 = .ok (.iload_n 1, 1) := by decide +kernel
theorem dX8_tile_77 : dec mX8_tile 77 = .ok (.invokestatic 255, 3) := by decide +kernel
theorem dX8_tile_80 : dec mX8_tile 80 = .ok (.ireturn, 1) := by decide +kernel
theorem dX8_remember_0 : dec mX8_remember 0 = .ok (.aload_n 0, 1) := by decide +kernel
theorem dX8_remember_1 : dec mX8_remember 1 = .ok (.getfield 238, 3) := by decide +kernel
theorem dX8_remember_4 : dec mX8_remember 4 = .ok (.bipush 14, 2) := by decide +kernel
theorem dX8_remember_6 : dec mX8_remember 6 = .ok (.if_icmp .ne 44, 3) := by decide +kernel
theorem dX8_remember_9 : dec mX8_remember 9 = .ok (.iconst 0, 1) := by decide +kernel
theorem dX8_remember_10 : dec mX8_remember 10 = .ok (.istore_n 1, 1) := by decide +kernel
theorem dX8_remember_11 : dec mX8_remember 11 = .ok (.iload_n 1, 1) := by decide +kernel
theorem dX8_remember_12 : dec mX8_remember 12 = .ok (.sipush 7319, 3) := by decide +kernel
theorem dX8_remember_15 : dec mX8_remember 15 = .ok (.if_icmp .ge 25, 3) := by decide +kernel
theorem dX8_remember_18 : dec mX8_remember 18 = .ok (.aload_n 0, 1) := by decide +kernel
theorem dX8_remember_19 : dec mX8_remember 19 = .ok (.getfield 19, 3) := by decide +kernel
theorem dX8_remember_22 : dec mX8_remember 22 = .ok (.iload_n 1, 1) := by decide +kernel
theorem dX8_remember_23 : dec mX8_remember 23 = .ok (.aload_n 0, 1) := by decide +kernel
theorem dX8_remember_24 : dec mX8_remember 24 = .ok (.getfield 19, 3) := by decide +kernel
theorem dX8_remember_27 : dec mX8_remember 27 = .ok (.iload_n 1, 1) := by decide +kernel
theorem dX8_remember_28 : dec mX8_remember 28 = .ok (.sipush 563, 3) := by decide +kernel
theorem dX8_remember_31 : dec mX8_remember 31 = .ok (.iadd, 1) := by decide +kernel
theorem dX8_remember_32 : dec mX8_remember 32 = .ok (.iaload, 1) := by decide +kernel
theorem dX8_remember_33 : dec mX8_remember 33 = .ok (.iastore, 1) := by decide +kernel
theorem dX8_remember_34 : dec mX8_remember 34 = .ok (.iinc 1 1, 3) := by decide +kernel
theorem dX8_remember_37 : dec mX8_remember 37 = .ok (.goto (-26), 3) := by decide +kernel
theorem dX8_remember_40 : dec mX8_remember 40 = .ok (.aload_n 0, 1) := by decide +kernel
theorem dX8_remember_41 : dec mX8_remember 41 = .ok (.dup, 1) := by decide +kernel
theorem dX8_remember_42 : dec mX8_remember 42 = .ok (.getfield 238, 3) := by decide +kernel
theorem dX8_remember_45 : dec mX8_remember 45 = .ok (.iconst 1, 1) := by decide +kernel
theorem dX8_remember_46 : dec mX8_remember 46 = .ok (.isub, 1) := by decide +kernel
theorem dX8_remember_47 : dec mX8_remember 47 = .ok (.putfield 238, 3) := by decide +kernel
theorem dX8_remember_50 : dec mX8_remember 50 = .ok (.aload_n 0, 1) := by decide +kernel
theorem dX8_remember_51 : dec mX8_remember 51 = .ok (.getfield 13, 3) := by decide +kernel
theorem dX8_remember_54 : dec mX8_remember 54 = .ok (.iconst 0, 1) := by decide +kernel
theorem dX8_remember_55 : dec mX8_remember 55 = .ok (.aload_n 0, 1) := by decide +kernel
theorem dX8_remember_56 : dec mX8_remember 56 = .ok (.getfield 19, 3) := by decide +kernel
theorem dX8_remember_59 : dec mX8_remember 59 = .ok (.sipush 563, 3) := by decide +kernel
theorem dX8_remember_62 : dec mX8_remember 62 = .ok (.aload_n 0, 1) := by decide +kernel
theorem dX8_remember_63 : dec mX8_remember 63 = .ok (.getfield 238, 3) := by decide +kernel
theorem dX8_remember_66 : dec mX8_remember 66 = .ok (.imul, 1) := by decide +kernel
theorem dX8_remember_67 : dec mX8_remember 67 = .ok (.invokestatic 234, 3) := by decide +kernel
theorem dX8_remember_70 : dec mX8_remember 70 = .ok (.aload_n 0, 1) := by decide +kernel
theorem dX8_remember_71 : dec mX8_remember 71 = .ok (.dup, 1) := by decide +kernel
theorem dX8_remember_72 : dec mX8_remember 72 = .ok (.getfield 238, 3) := by decide +kernel
theorem dX8_remember_75 : dec mX8_remember 75 = .ok (.iconst 1, 1) := by decide +kernel
theorem dX8_remember_76 : dec mX8_remember 76 = .ok (.iadd, 1) := by decide +kernel
theorem dX8_remember_77 : dec mX8_remember 77 = .ok (.putfield 238, 3) := by decide +kernel
theorem dX8_remember_80 : dec mX8_remember 80 = .ok (.return_, 1) := by decide +kernel
theorem dX8_begin_0 : dec mX8_begin 0 = .ok (.aload_n 0, 1) := by decide +kernel
theorem dX8_begin_1 : dec mX8_begin 1 = .ok (.iload_n 1, 1) := by decide +kernel
theorem dX8_begin_2 : dec mX8_begin 2 = .ok (.i2l, 1) := by decide +kernel
theorem dX8_begin_3 : dec mX8_begin 3 = .ok (.ldc2_w 253, 3) := by decide +kernel
theorem dX8_begin_6 : dec mX8_begin 6 = .ok (.ldc2_w 251, 3) := by decide +kernel
theorem dX8_begin_9 : dec mX8_begin 9 = .ok (.invokestatic 50, 3) := by decide +kernel
theorem dX8_begin_12 : dec mX8_begin 12 = .ok (.ifCond .eq 19, 3) := by decide +kernel
theorem dX8_begin_15 : dec mX8_begin 15 = .ok (.iload_n 2, 1) := by decide +kernel
theorem dX8_begin_16 : dec mX8_begin 16 = .ok (.i2l, 1) := by decide +kernel
theorem dX8_begin_17 : dec mX8_begin 17 = .ok (.lconst 1, 1) := by decide +kernel
theorem dX8_begin_18 : dec mX8_begin 18 = .ok (.ldc2_w 253, 3) := by decide +kernel
theorem dX8_begin_21 : dec mX8_begin 21 = .ok (.invokestatic 50, 3) := by decide +kernel
theorem dX8_begin_24 : dec mX8_begin 24 = .ok (.ifCond .eq 7, 3) := by decide +kernel
theorem dX8_begin_27 : dec mX8_begin 27 = .ok (.iconst 0, 1) := by decide +kernel
theorem dX8_begin_28 : dec mX8_begin 28 = .ok (.goto 4, 3) := by decide +kernel
theorem dX8_begin_31 : dec mX8_begin 31 = .ok (.iconst 1, 1) := by decide +kernel
theorem dX8_begin_32 : dec mX8_begin 32 = .ok (.invokevirtual 167, 3) := by decide +kernel
theorem dX8_begin_35 : dec mX8_begin 35 = .ok (.ifCond .eq 5, 3) := by decide +kernel
theorem dX8_begin_38 : dec mX8_begin 38 = .ok (.iconst 0, 1) := by decide +kernel
theorem dX8_begin_39 : dec mX8_begin 39 = .ok (.ireturn, 1) := by decide +kernel
theorem dX8_begin_40 : dec mX8_begin 40 = .ok (.aload_n 0, 1) := by decide +kernel
theorem dX8_begin_41 : dec mX8_begin 41 = .ok (.invokevirtual 258, 3) := by decide +kernel
theorem dX8_begin_44 : dec mX8_begin 44 = .ok (.aload_n 0, 1) := by decide +kernel
theorem dX8_begin_45 : dec mX8_begin 45 = .ok (.getfield 13, 3) := by decide +kernel
theorem dX8_begin_48 : dec mX8_begin 48 = .ok (.iload_n 1, 1) := by decide +kernel
theorem dX8_begin_49 : dec mX8_begin 49 = .ok (.iload_n 2, 1) := by decide +kernel
theorem dX8_begin_50 : dec mX8_begin 50 = .ok (.invokestatic 32, 3) := by decide +kernel
theorem dX8_begin_53 : dec mX8_begin 53 = .ok (.aload_n 0, 1) := by decide +kernel
theorem dX8_begin_54 : dec mX8_begin 54 = .ok (.getfield 13, 3) := by decide +kernel
theorem dX8_begin_57 : dec mX8_begin 57 = .ok (.invokestatic 54, 3) := by decide +kernel
theorem dX8_begin_60 : dec mX8_begin 60 = .ok (.ireturn, 1) := by decide +kernel
theorem dX8_grey_0 : dec mX8_grey 0 = .ok (.aload_n 0, 1) := by decide +kernel
theorem dX8_grey_1 : dec mX8_grey 1 = .ok (.aload_n 0, 1) := by decide +kernel
theorem dX8_grey_2 : dec mX8_grey 2 = .ok (.getfield 13, 3) := by decide +kernel
theorem dX8_grey_5 : dec mX8_grey 5 = .ok (.iload_n 1, 1) := by decide +kernel
theorem dX8_grey_6 : dec mX8_grey 6 = .ok (.iload_n 2, 1) := by decide +kernel
theorem dX8_grey_7 : dec mX8_grey 7 = .ok (.invokestatic 158, 3) := by decide +kernel
theorem dX8_grey_10 : dec mX8_grey 10 = .ok (.ifCond .ne 7, 3) := by decide +kernel
theorem dX8_grey_13 : dec mX8_grey 13 = .ok (.iconst 1, 1) := by decide +kernel
theorem dX8_grey_14 : dec mX8_grey 14 = .ok (.goto 20, 3) := by decide +kernel
theorem dX8_grey_17 : dec mX8_grey 17 = .ok (.iload_n 3, 1) := by decide +kernel
theorem dX8_grey_18 : dec mX8_grey 18 = .ok (.i2l, 1) := by decide +kernel
theorem dX8_grey_19 : dec mX8_grey 19 = .ok (.lconst 0, 1) := by decide +kernel
theorem dX8_grey_20 : dec mX8_grey 20 = .ok (.ldc2_w 261, 3) := by decide +kernel
theorem dX8_grey_23 : dec mX8_grey 23 = .ok (.invokestatic 50, 3) := by decide +kernel
theorem dX8_grey_26 : dec mX8_grey 26 = .ok (.ifCond .eq 7, 3) := by decide +kernel
theorem dX8_grey_29 : dec mX8_grey 29 = .ok (.iconst 0, 1) := by decide +kernel
theorem dX8_grey_30 : dec mX8_grey 30 = .ok (.goto 4, 3) := by decide +kernel
theorem dX8_grey_33 : dec mX8_grey 33 = .ok (.iconst 2, 1) := by decide +kernel
theorem dX8_grey_34 : dec mX8_grey 34 = .ok (.invokevirtual 167, 3) := by decide +kernel
theorem dX8_grey_37 : dec mX8_grey 37 = .ok (.ifCond .eq 5, 3) := by decide +kernel
theorem dX8_grey_40 : dec mX8_grey 40 = .ok (.iconst 0, 1) := by decide +kernel
theorem dX8_grey_41 : dec mX8_grey 41 = .ok (.ireturn, 1) := by decide +kernel
theorem dX8_grey_42 : dec mX8_grey 42 = .ok (.aload_n 0, 1) := by decide +kernel
theorem dX8_grey_43 : dec mX8_grey 43 = .ok (.invokevirtual 258, 3) := by decide +kernel
theorem dX8_grey_46 : dec mX8_grey 46 = .ok (.aload_n 0, 1) := by decide +kernel
theorem dX8_grey_47 : dec mX8_grey 47 = .ok (.getfield 13, 3) := by decide +kernel
theorem dX8_grey_50 : dec mX8_grey 50 = .ok (.iload_n 1, 1) := by decide +kernel
theorem dX8_grey_51 : dec mX8_grey 51 = .ok (.iload_n 2, 1) := by decide +kernel
theorem dX8_grey_52 : dec mX8_grey 52 = .ok (.iload_n 3, 1) := by decide +kernel
theorem dX8_grey_53 : dec mX8_grey 53 = .ok (.invokestatic 195, 3) := by decide +kernel
theorem dX8_grey_56 : dec mX8_grey 56 = .ok (.ireturn, 1) := by decide +kernel
theorem dX8_fade_0 : dec mX8_fade 0 = .ok (.aload_n 0, 1) := by decide +kernel
theorem dX8_fade_1 : dec mX8_fade 1 = .ok (.iload_n 1, 1) := by decide +kernel
theorem dX8_fade_2 : dec mX8_fade 2 = .ok (.i2l, 1) := by decide +kernel
theorem dX8_fade_3 : dec mX8_fade 3 = .ok (.lconst 0, 1) := by decide +kernel
theorem dX8_fade_4 : dec mX8_fade 4 = .ok (.ldc2_w 261, 3) := by decide +kernel
theorem dX8_fade_7 : dec mX8_fade 7 = .ok (.invokestatic 50, 3) := by decide +kernel
theorem dX8_fade_10 : dec mX8_fade 10 = .ok (.ifCond .eq 19, 3) := by decide +kernel
theorem dX8_fade_13 : dec mX8_fade 13 = .ok (.iload_n 2, 1) := by decide +kernel
theorem dX8_fade_14 : dec mX8_fade 14 = .ok (.i2l, 1) := by decide +kernel
theorem dX8_fade_15 : dec mX8_fade 15 = .ok (.lconst 0, 1) := by decide +kernel
theorem dX8_fade_16 : dec mX8_fade 16 = .ok (.ldc2_w 261, 3) := by decide +kernel
theorem dX8_fade_19 : dec mX8_fade 19 = .ok (.invokestatic 50, 3) := by decide +kernel
theorem dX8_fade_22 : dec mX8_fade 22 = .ok (.ifCond .eq 7, 3) := by decide +kernel
theorem dX8_fade_25 : dec mX8_fade 25 = .ok (.iconst 0, 1) := by decide +kernel
theorem dX8_fade_26 : dec mX8_fade 26 = .ok (.goto 4, 3) := by decide +kernel
theorem dX8_fade_29 : dec mX8_fade 29 = .ok (.iconst 1, 1) := by decide +kernel
theorem dX8_fade_30 : dec mX8_fade 30 = .ok (.invokevirtual 167, 3) := by decide +kernel
theorem dX8_fade_33 : dec mX8_fade 33 = .ok (.ifCond .eq 5, 3) := by decide +kernel
theorem dX8_fade_36 : dec mX8_fade 36 = .ok (.iconst 0, 1) := by decide +kernel
theorem dX8_fade_37 : dec mX8_fade 37 = .ok (.ireturn, 1) := by decide +kernel
theorem dX8_fade_38 : dec mX8_fade 38 = .ok (.aload_n 0, 1) := by decide +kernel
theorem dX8_fade_39 : dec mX8_fade 39 = .ok (.invokevirtual 258, 3) := by decide +kernel
theorem dX8_fade_42 : dec mX8_fade 42 = .ok (.aload_n 0, 1) := by decide +kernel
theorem dX8_fade_43 : dec mX8_fade 43 = .ok (.getfield 13, 3) := by decide +kernel
theorem dX8_fade_46 : dec mX8_fade 46 = .ok (.iload_n 1, 1) := by decide +kernel
theorem dX8_fade_47 : dec mX8_fade 47 = .ok (.iload_n 2, 1) := by decide +kernel
theorem dX8_fade_48 : dec mX8_fade 48 = .ok (.invokestatic 179, 3) := by decide +kernel
theorem dX8_fade_51 : dec mX8_fade 51 = .ok (.aload_n 0, 1) := by decide +kernel
theorem dX8_fade_52 : dec mX8_fade 52 = .ok (.getfield 13, 3) := by decide +kernel
theorem dX8_fade_55 : dec mX8_fade 55 = .ok (.invokestatic 146, 3) := by decide +kernel
theorem dX8_fade_58 : dec mX8_fade 58 = .ok (.ireturn, 1) := by decide +kernel
theorem dX8_turn_0 : dec mX8_turn 0 = .ok (.aload_n 0, 1) := by decide +kernel
theorem dX8_turn_1 : dec mX8_turn 1 = .ok (.aload_n 0, 1) := by decide +kernel
theorem dX8_turn_2 : dec mX8_turn 2 = .ok (.getfield 13, 3) := by decide +kernel
theorem dX8_turn_5 : dec mX8_turn 5 = .ok (.iload_n 1, 1) := by decide +kernel
theorem dX8_turn_6 : dec mX8_turn 6 = .ok (.invokestatic 152, 3) := by decide +kernel
theorem dX8_turn_9 : dec mX8_turn 9 = .ok (.ifCond .ne 7, 3) := by decide +kernel
theorem dX8_turn_12 : dec mX8_turn 12 = .ok (.iconst 1, 1) := by decide +kernel
theorem dX8_turn_13 : dec mX8_turn 13 = .ok (.goto 19, 3) := by decide +kernel
theorem dX8_turn_16 : dec mX8_turn 16 = .ok (.aload_n 0, 1) := by decide +kernel
theorem dX8_turn_17 : dec mX8_turn 17 = .ok (.getfield 13, 3) := by decide +kernel
theorem dX8_turn_20 : dec mX8_turn 20 = .ok (.iload_n 1, 1) := by decide +kernel
theorem dX8_turn_21 : dec mX8_turn 21 = .ok (.invokestatic 155, 3) := by decide +kernel
theorem dX8_turn_24 : dec mX8_turn 24 = .ok (.ifCond .eq 7, 3) := by decide +kernel
theorem dX8_turn_27 : dec mX8_turn 27 = .ok (.iconst 0, 1) := by decide +kernel
theorem dX8_turn_28 : dec mX8_turn 28 = .ok (.goto 4, 3) := by decide +kernel
theorem dX8_turn_31 : dec mX8_turn 31 = .ok (.iconst 2, 1) := by decide +kernel
theorem dX8_turn_32 : dec mX8_turn 32 = .ok (.invokevirtual 167, 3) := by decide +kernel
theorem dX8_turn_35 : dec mX8_turn 35 = .ok (.ifCond .eq 5, 3) := by decide +kernel
theorem dX8_turn_38 : dec mX8_turn 38 = .ok (.iconst 0, 1) := by decide +kernel
theorem dX8_turn_39 : dec mX8_turn 39 = .ok (.ireturn, 1) := by decide +kernel
theorem dX8_turn_40 : dec mX8_turn 40 = .ok (.aload_n 0, 1) := by decide +kernel
theorem dX8_turn_41 : dec mX8_turn 41 = .ok (.invokevirtual 258, 3) := by decide +kernel
theorem dX8_turn_44 : dec mX8_turn 44 = .ok (.aload_n 0, 1) := by decide +kernel
theorem dX8_turn_45 : dec mX8_turn 45 = .ok (.getfield 13, 3) := by decide +kernel
theorem dX8_turn_48 : dec mX8_turn 48 = .ok (.aload_n 0, 1) := by decide +kernel
theorem dX8_turn_49 : dec mX8_turn 49 = .ok (.getfield 13, 3) := by decide +kernel
theorem dX8_turn_52 : dec mX8_turn 52 = .ok (.iload_n 1, 1) := by decide +kernel
theorem dX8_turn_53 : dec mX8_turn 53 = .ok (.invokestatic 123, 3) := by decide +kernel
theorem dX8_turn_56 : dec mX8_turn 56 = .ok (.invokestatic 126, 3) := by decide +kernel
theorem dX8_turn_59 : dec mX8_turn 59 = .ok (.ireturn, 1) := by decide +kernel
theorem dX8_swap_0 : dec mX8_swap 0 = .ok (.aload_n 0, 1) := by decide +kernel
theorem dX8_swap_1 : dec mX8_swap 1 = .ok (.aload_n 0, 1) := by decide +kernel
theorem dX8_swap_2 : dec mX8_swap 2 = .ok (.getfield 13, 3) := by decide +kernel
theorem dX8_swap_5 : dec mX8_swap 5 = .ok (.iload_n 1, 1) := by decide +kernel
theorem dX8_swap_6 : dec mX8_swap 6 = .ok (.invokestatic 152, 3) := by decide +kernel
theorem dX8_swap_9 : dec mX8_swap 9 = .ok (.ifCond .eq 14, 3) := by decide +kernel
theorem dX8_swap_12 : dec mX8_swap 12 = .ok (.aload_n 0, 1) := by decide +kernel
theorem dX8_swap_13 : dec mX8_swap 13 = .ok (.getfield 13, 3) := by decide +kernel
theorem dX8_swap_16 : dec mX8_swap 16 = .ok (.iload_n 2, 1) := by decide +kernel
theorem dX8_swap_17 : dec mX8_swap 17 = .ok (.invokestatic 152, 3) := by decide +kernel
theorem dX8_swap_20 : dec mX8_swap 20 = .ok (.ifCond .ne 7, 3) := by decide +kernel
theorem dX8_swap_23 : dec mX8_swap 23 = .ok (.iconst 1, 1) := by decide +kernel
theorem dX8_swap_24 : dec mX8_swap 24 = .ok (.goto 29, 3) := by decide +kernel
theorem dX8_swap_27 : dec mX8_swap 27 = .ok (.iload_n 1, 1) := by decide +kernel
theorem dX8_swap_28 : dec mX8_swap 28 = .ok (.iload_n 2, 1) := by decide +kernel
theorem dX8_swap_29 : dec mX8_swap 29 = .ok (.if_icmp .ne 7, 3) := by decide +kernel
theorem dX8_swap_32 : dec mX8_swap 32 = .ok (.iconst 2, 1) := by decide +kernel
theorem dX8_swap_33 : dec mX8_swap 33 = .ok (.goto 20, 3) := by decide +kernel
theorem dX8_swap_36 : dec mX8_swap 36 = .ok (.aload_n 0, 1) := by decide +kernel
theorem dX8_swap_37 : dec mX8_swap 37 = .ok (.getfield 13, 3) := by decide +kernel
theorem dX8_swap_40 : dec mX8_swap 40 = .ok (.iload_n 1, 1) := by decide +kernel
theorem dX8_swap_41 : dec mX8_swap 41 = .ok (.iload_n 2, 1) := by decide +kernel
theorem dX8_swap_42 : dec mX8_swap 42 = .ok (.invokestatic 182, 3) := by decide +kernel
theorem dX8_swap_45 : dec mX8_swap 45 = .ok (.ifCond .eq 7, 3) := by decide +kernel
theorem dX8_swap_48 : dec mX8_swap 48 = .ok (.iconst 0, 1) := by decide +kernel
theorem dX8_swap_49 : dec mX8_swap 49 = .ok (.goto 4, 3) := by decide +kernel
theorem dX8_swap_52 : dec mX8_swap 52 = .ok (.iconst 3, 1) := by decide +kernel
theorem dX8_swap_53 : dec mX8_swap 53 = .ok (.invokevirtual 167, 3) := by decide +kernel
theorem dX8_swap_56 : dec mX8_swap 56 = .ok (.ifCond .eq 5, 3) := by decide +kernel
theorem dX8_swap_59 : dec mX8_swap 59 = .ok (.iconst 0, 1) := by decide +kernel
theorem dX8_swap_60 : dec mX8_swap 60 = .ok (.ireturn, 1) := by decide +kernel
theorem dX8_swap_61 : dec mX8_swap 61 = .ok (.aload_n 0, 1) := by decide +kernel
theorem dX8_swap_62 : dec mX8_swap 62 = .ok (.invokevirtual 258, 3) := by decide +kernel
theorem dX8_swap_65 : dec mX8_swap 65 = .ok (.aload_n 0, 1) := by decide +kernel
theorem dX8_swap_66 : dec mX8_swap 66 = .ok (.getfield 13, 3) := by decide +kernel
theorem dX8_swap_69 : dec mX8_swap 69 = .ok (.aload_n 0, 1) := by decide +kernel
theorem dX8_swap_70 : dec mX8_swap 70 = .ok (.getfield 13, 3) := by decide +kernel
theorem dX8_swap_73 : dec mX8_swap 73 = .ok (.iload_n 1, 1) := by decide +kernel
theorem dX8_swap_74 : dec mX8_swap 74 = .ok (.invokestatic 123, 3) := by decide +kernel
theorem dX8_swap_77 : dec mX8_swap 77 = .ok (.aload_n 0, 1) := by decide +kernel
theorem dX8_swap_78 : dec mX8_swap 78 = .ok (.getfield 13, 3) := by decide +kernel
theorem dX8_swap_81 : dec mX8_swap 81 = .ok (.iload_n 2, 1) := by decide +kernel
theorem dX8_swap_82 : dec mX8_swap 82 = .ok (.invokestatic 123, 3) := by decide +kernel
theorem dX8_swap_85 : dec mX8_swap 85 = .ok (.invokestatic 129, 3) := by decide +kernel
theorem dX8_swap_88 : dec mX8_swap 88 = .ok (.ireturn, 1) := by decide +kernel
theorem dX8_flip_0 : dec mX8_flip 0 = .ok (.aload_n 0, 1) := by decide +kernel
theorem dX8_flip_1 : dec mX8_flip 1 = .ok (.aload_n 0, 1) := by decide +kernel
theorem dX8_flip_2 : dec mX8_flip 2 = .ok (.getfield 13, 3) := by decide +kernel
theorem dX8_flip_5 : dec mX8_flip 5 = .ok (.iload_n 1, 1) := by decide +kernel
theorem dX8_flip_6 : dec mX8_flip 6 = .ok (.iload_n 2, 1) := by decide +kernel
theorem dX8_flip_7 : dec mX8_flip 7 = .ok (.invokestatic 158, 3) := by decide +kernel
theorem dX8_flip_10 : dec mX8_flip 10 = .ok (.ifCond .ne 7, 3) := by decide +kernel
theorem dX8_flip_13 : dec mX8_flip 13 = .ok (.iconst 1, 1) := by decide +kernel
theorem dX8_flip_14 : dec mX8_flip 14 = .ok (.goto 20, 3) := by decide +kernel
theorem dX8_flip_17 : dec mX8_flip 17 = .ok (.aload_n 0, 1) := by decide +kernel
theorem dX8_flip_18 : dec mX8_flip 18 = .ok (.getfield 13, 3) := by decide +kernel
theorem dX8_flip_21 : dec mX8_flip 21 = .ok (.iload_n 1, 1) := by decide +kernel
theorem dX8_flip_22 : dec mX8_flip 22 = .ok (.iload_n 2, 1) := by decide +kernel
theorem dX8_flip_23 : dec mX8_flip 23 = .ok (.invokestatic 185, 3) := by decide +kernel
theorem dX8_flip_26 : dec mX8_flip 26 = .ok (.ifCond .eq 7, 3) := by decide +kernel
theorem dX8_flip_29 : dec mX8_flip 29 = .ok (.iconst 0, 1) := by decide +kernel
theorem dX8_flip_30 : dec mX8_flip 30 = .ok (.goto 4, 3) := by decide +kernel
theorem dX8_flip_33 : dec mX8_flip 33 = .ok (.iconst 2, 1) := by decide +kernel
theorem dX8_flip_34 : dec mX8_flip 34 = .ok (.invokevirtual 167, 3) := by decide +kernel
theorem dX8_flip_37 : dec mX8_flip 37 = .ok (.ifCond .eq 5, 3) := by decide +kernel
theorem dX8_flip_40 : dec mX8_flip 40 = .ok (.iconst 0, 1) := by decide +kernel
theorem dX8_flip_41 : dec mX8_flip 41 = .ok (.ireturn, 1) := by decide +kernel
theorem dX8_flip_42 : dec mX8_flip 42 = .ok (.aload_n 0, 1) := by decide +kernel
theorem dX8_flip_43 : dec mX8_flip 43 = .ok (.invokevirtual 258, 3) := by decide +kernel
theorem dX8_flip_46 : dec mX8_flip 46 = .ok (.aload_n 0, 1) := by decide +kernel
theorem dX8_flip_47 : dec mX8_flip 47 = .ok (.getfield 13, 3) := by decide +kernel
theorem dX8_flip_50 : dec mX8_flip 50 = .ok (.aload_n 0, 1) := by decide +kernel
theorem dX8_flip_51 : dec mX8_flip 51 = .ok (.getfield 13, 3) := by decide +kernel
theorem dX8_flip_54 : dec mX8_flip 54 = .ok (.invokestatic 40, 3) := by decide +kernel
theorem dX8_flip_57 : dec mX8_flip 57 = .ok (.iload_n 2, 1) := by decide +kernel
theorem dX8_flip_58 : dec mX8_flip 58 = .ok (.imul, 1) := by decide +kernel
theorem dX8_flip_59 : dec mX8_flip 59 = .ok (.iload_n 1, 1) := by decide +kernel
theorem dX8_flip_60 : dec mX8_flip 60 = .ok (.iadd, 1) := by decide +kernel
theorem dX8_flip_61 : dec mX8_flip 61 = .ok (.invokestatic 132, 3) := by decide +kernel
theorem dX8_flip_64 : dec mX8_flip 64 = .ok (.ireturn, 1) := by decide +kernel
theorem dX8_hold_0 : dec mX8_hold 0 = .ok (.aload_n 0, 1) := by decide +kernel
theorem dX8_hold_1 : dec mX8_hold 1 = .ok (.aload_n 0, 1) := by decide +kernel
theorem dX8_hold_2 : dec mX8_hold 2 = .ok (.getfield 13, 3) := by decide +kernel
theorem dX8_hold_5 : dec mX8_hold 5 = .ok (.iload_n 1, 1) := by decide +kernel
theorem dX8_hold_6 : dec mX8_hold 6 = .ok (.invokestatic 152, 3) := by decide +kernel
theorem dX8_hold_9 : dec mX8_hold 9 = .ok (.ifCond .eq 7, 3) := by decide +kernel
theorem dX8_hold_12 : dec mX8_hold 12 = .ok (.iconst 0, 1) := by decide +kernel
theorem dX8_hold_13 : dec mX8_hold 13 = .ok (.goto 4, 3) := by decide +kernel
theorem dX8_hold_16 : dec mX8_hold 16 = .ok (.iconst 1, 1) := by decide +kernel
theorem dX8_hold_17 : dec mX8_hold 17 = .ok (.invokevirtual 167, 3) := by decide +kernel
theorem dX8_hold_20 : dec mX8_hold 20 = .ok (.ifCond .eq 5, 3) := by decide +kernel
theorem dX8_hold_23 : dec mX8_hold 23 = .ok (.iconst 0, 1) := by decide +kernel
theorem dX8_hold_24 : dec mX8_hold 24 = .ok (.ireturn, 1) := by decide +kernel
theorem dX8_hold_25 : dec mX8_hold 25 = .ok (.aload_n 0, 1) := by decide +kernel
theorem dX8_hold_26 : dec mX8_hold 26 = .ok (.invokevirtual 258, 3) := by decide +kernel
theorem dX8_hold_29 : dec mX8_hold 29 = .ok (.aload_n 0, 1) := by decide +kernel
theorem dX8_hold_30 : dec mX8_hold 30 = .ok (.getfield 13, 3) := by decide +kernel
theorem dX8_hold_33 : dec mX8_hold 33 = .ok (.iload_n 1, 1) := by decide +kernel
theorem dX8_hold_34 : dec mX8_hold 34 = .ok (.iload_n 2, 1) := by decide +kernel
theorem dX8_hold_35 : dec mX8_hold 35 = .ok (.invokestatic 218, 3) := by decide +kernel
theorem dX8_hold_38 : dec mX8_hold 38 = .ok (.ireturn, 1) := by decide +kernel
theorem dX8_lay_0 : dec mX8_lay 0 = .ok (.aload_n 0, 1) := by decide +kernel
theorem dX8_lay_1 : dec mX8_lay 1 = .ok (.iconst 0, 1) := by decide +kernel
theorem dX8_lay_2 : dec mX8_lay 2 = .ok (.putfield 36, 3) := by decide +kernel
theorem dX8_lay_5 : dec mX8_lay 5 = .ok (.aload_n 0, 1) := by decide +kernel
theorem dX8_lay_6 : dec mX8_lay 6 = .ok (.invokevirtual 258, 3) := by decide +kernel
theorem dX8_lay_9 : dec mX8_lay 9 = .ok (.aload_n 0, 1) := by decide +kernel
theorem dX8_lay_10 : dec mX8_lay 10 = .ok (.aload_n 0, 1) := by decide +kernel
theorem dX8_lay_11 : dec mX8_lay 11 = .ok (.getfield 13, 3) := by decide +kernel
theorem dX8_lay_14 : dec mX8_lay 14 = .ok (.invokevirtual 188, 3) := by decide +kernel
theorem dX8_lay_17 : dec mX8_lay 17 = .ok (.ireturn, 1) := by decide +kernel
theorem dX8_improve_0 : dec mX8_improve 0 = .ok (.aload_n 0, 1) := by decide +kernel
theorem dX8_improve_1 : dec mX8_improve 1 = .ok (.iload_n 1, 1) := by decide +kernel
theorem dX8_improve_2 : dec mX8_improve 2 = .ok (.i2l, 1) := by decide +kernel
theorem dX8_improve_3 : dec mX8_improve 3 = .ok (.lconst 1, 1) := by decide +kernel
theorem dX8_improve_4 : dec mX8_improve 4 = .ok (.ldc2_w 263, 3) := by decide +kernel
theorem dX8_improve_7 : dec mX8_improve 7 = .ok (.invokestatic 50, 3) := by decide +kernel
theorem dX8_improve_10 : dec mX8_improve 10 = .ok (.ifCond .eq 7, 3) := by decide +kernel
theorem dX8_improve_13 : dec mX8_improve 13 = .ok (.iconst 0, 1) := by decide +kernel
theorem dX8_improve_14 : dec mX8_improve 14 = .ok (.goto 4, 3) := by decide +kernel
theorem dX8_improve_17 : dec mX8_improve 17 = .ok (.iconst 1, 1) := by decide +kernel
theorem dX8_improve_18 : dec mX8_improve 18 = .ok (.invokevirtual 167, 3) := by decide +kernel
theorem dX8_improve_21 : dec mX8_improve 21 = .ok (.ifCond .eq 5, 3) := by decide +kernel
theorem dX8_improve_24 : dec mX8_improve 24 = .ok (.iconst 0, 1) := by decide +kernel
theorem dX8_improve_25 : dec mX8_improve 25 = .ok (.ireturn, 1) := by decide +kernel
theorem dX8_improve_26 : dec mX8_improve 26 = .ok (.aload_n 0, 1) := by decide +kernel
theorem dX8_improve_27 : dec mX8_improve 27 = .ok (.invokevirtual 258, 3) := by decide +kernel
theorem dX8_improve_30 : dec mX8_improve 30 = .ok (.aload_n 0, 1) := by decide +kernel
theorem dX8_improve_31 : dec mX8_improve 31 = .ok (.aload_n 0, 1) := by decide +kernel
theorem dX8_improve_32 : dec mX8_improve 32 = .ok (.getfield 13, 3) := by decide +kernel
theorem dX8_improve_35 : dec mX8_improve 35 = .ok (.iload_n 1, 1) := by decide +kernel
theorem dX8_improve_36 : dec mX8_improve 36 = .ok (.invokevirtual 225, 3) := by decide +kernel
theorem dX8_improve_39 : dec mX8_improve 39 = .ok (.ireturn, 1) := by decide +kernel
theorem dX8_undo_0 : dec mX8_undo 0 = .ok (.aload_n 0, 1) := by decide +kernel
theorem dX8_undo_1 : dec mX8_undo 1 = .ok (.aload_n 0, 1) := by decide +kernel
theorem dX8_undo_2 : dec mX8_undo 2 = .ok (.getfield 238, 3) := by decide +kernel
theorem dX8_undo_5 : dec mX8_undo 5 = .ok (.ifCond .ne 7, 3) := by decide +kernel
theorem dX8_undo_8 : dec mX8_undo 8 = .ok (.iconst 1, 1) := by decide +kernel
theorem dX8_undo_9 : dec mX8_undo 9 = .ok (.goto 4, 3) := by decide +kernel
theorem dX8_undo_12 : dec mX8_undo 12 = .ok (.iconst 0, 1) := by decide +kernel
theorem dX8_undo_13 : dec mX8_undo 13 = .ok (.invokevirtual 167, 3) := by decide +kernel
theorem dX8_undo_16 : dec mX8_undo 16 = .ok (.ifCond .eq 5, 3) := by decide +kernel
theorem dX8_undo_19 : dec mX8_undo 19 = .ok (.iconst 0, 1) := by decide +kernel
theorem dX8_undo_20 : dec mX8_undo 20 = .ok (.ireturn, 1) := by decide +kernel
theorem dX8_undo_21 : dec mX8_undo 21 = .ok (.aload_n 0, 1) := by decide +kernel
theorem dX8_undo_22 : dec mX8_undo 22 = .ok (.dup, 1) := by decide +kernel
theorem dX8_undo_23 : dec mX8_undo 23 = .ok (.getfield 238, 3) := by decide +kernel
theorem dX8_undo_26 : dec mX8_undo 26 = .ok (.iconst 1, 1) := by decide +kernel
theorem dX8_undo_27 : dec mX8_undo 27 = .ok (.isub, 1) := by decide +kernel
theorem dX8_undo_28 : dec mX8_undo 28 = .ok (.putfield 238, 3) := by decide +kernel
theorem dX8_undo_31 : dec mX8_undo 31 = .ok (.aload_n 0, 1) := by decide +kernel
theorem dX8_undo_32 : dec mX8_undo 32 = .ok (.getfield 19, 3) := by decide +kernel
theorem dX8_undo_35 : dec mX8_undo 35 = .ok (.sipush 563, 3) := by decide +kernel
theorem dX8_undo_38 : dec mX8_undo 38 = .ok (.aload_n 0, 1) := by decide +kernel
theorem dX8_undo_39 : dec mX8_undo 39 = .ok (.getfield 238, 3) := by decide +kernel
theorem dX8_undo_42 : dec mX8_undo 42 = .ok (.imul, 1) := by decide +kernel
theorem dX8_undo_43 : dec mX8_undo 43 = .ok (.aload_n 0, 1) := by decide +kernel
theorem dX8_undo_44 : dec mX8_undo 44 = .ok (.getfield 13, 3) := by decide +kernel
theorem dX8_undo_47 : dec mX8_undo 47 = .ok (.iconst 0, 1) := by decide +kernel
theorem dX8_undo_48 : dec mX8_undo 48 = .ok (.invokestatic 234, 3) := by decide +kernel
theorem dX8_undo_51 : dec mX8_undo 51 = .ok (.aload_n 0, 1) := by decide +kernel
theorem dX8_undo_52 : dec mX8_undo 52 = .ok (.getfield 238, 3) := by decide +kernel
theorem dX8_undo_55 : dec mX8_undo 55 = .ok (.ireturn, 1) := by decide +kernel
theorem dX8_isChange_0 : dec mX8_isChange 0 = .ok (.iload_n 1, 1) := by decide +kernel
theorem dX8_isChange_1 : dec mX8_isChange 1 = .ok (.sipush 10000, 3) := by decide +kernel
theorem dX8_isChange_4 : dec mX8_isChange 4 = .ok (.irem, 1) := by decide +kernel
theorem dX8_isChange_5 : dec mX8_isChange 5 = .ok (.istore_n 2, 1) := by decide +kernel
theorem dX8_isChange_6 : dec mX8_isChange 6 = .ok (.iload_n 1, 1) := by decide +kernel
theorem dX8_isChange_7 : dec mX8_isChange 7 = .ok (.i2l, 1) := by decide +kernel
theorem dX8_isChange_8 : dec mX8_isChange 8 = .ok (.lconst 0, 1) := by decide +kernel
theorem dX8_isChange_9 : dec mX8_isChange 9 = .ok (.ldc2_w 265, 3) := by decide +kernel
theorem dX8_isChange_12 : dec mX8_isChange 12 = .ok (.invokestatic 50, 3) := by decide +kernel
theorem dX8_isChange_15 : dec mX8_isChange 15 = .ok (.ifCond .ne 5, 3) := by decide +kernel
theorem dX8_isChange_18 : dec mX8_isChange 18 = .ok (.iconst 0, 1) := by decide +kernel
theorem dX8_isChange_19 : dec mX8_isChange 19 = .ok (.ireturn, 1) := by decide +kernel
theorem dX8_isChange_20 : dec mX8_isChange 20 = .ok (.iload_n 1, 1) := by decide +kernel
theorem dX8_isChange_21 : dec mX8_isChange 21 = .ok (.sipush 10000, 3) := by decide +kernel
theorem dX8_isChange_24 : dec mX8_isChange 24 = .ok (.if_icmp .ge 11, 3) := by decide +kernel
theorem dX8_isChange_27 : dec mX8_isChange 27 = .ok (.aload_n 0, 1) := by decide +kernel
theorem dX8_isChange_28 : dec mX8_isChange 28 = .ok (.iload_n 2, 1) := by decide +kernel
theorem dX8_isChange_29 : dec mX8_isChange 29 = .ok (.invokestatic 152, 3) := by decide +kernel
theorem dX8_isChange_32 : dec mX8_isChange 32 = .ok (.goto 62, 3) := by decide +kernel
theorem dX8_isChange_35 : dec mX8_isChange 35 = .ok (.iload_n 1, 1) := by decide +kernel
theorem dX8_isChange_36 : dec mX8_isChange 36 = .ok (.sipush 20000, 3) := by decide +kernel
theorem dX8_isChange_39 : dec mX8_isChange 39 = .ok (.if_icmp .ge 33, 3) := by decide +kernel
theorem dX8_isChange_42 : dec mX8_isChange 42 = .ok (.iload_n 2, 1) := by decide +kernel
theorem dX8_isChange_43 : dec mX8_isChange 43 = .ok (.bipush 100, 2) := by decide +kernel
theorem dX8_isChange_45 : dec mX8_isChange 45 = .ok (.idiv, 1) := by decide +kernel
theorem dX8_isChange_46 : dec mX8_isChange 46 = .ok (.iload_n 2, 1) := by decide +kernel
theorem dX8_isChange_47 : dec mX8_isChange 47 = .ok (.bipush 100, 2) := by decide +kernel
theorem dX8_isChange_49 : dec mX8_isChange 49 = .ok (.irem, 1) := by decide +kernel
theorem dX8_isChange_50 : dec mX8_isChange 50 = .ok (.if_icmp .ge 18, 3) := by decide +kernel
theorem dX8_isChange_53 : dec mX8_isChange 53 = .ok (.aload_n 0, 1) := by decide +kernel
theorem dX8_isChange_54 : dec mX8_isChange 54 = .ok (.iload_n 2, 1) := by decide +kernel
theorem dX8_isChange_55 : dec mX8_isChange 55 = .ok (.bipush 100, 2) := by decide +kernel
theorem dX8_isChange_57 : dec mX8_isChange 57 = .ok (.irem, 1) := by decide +kernel
theorem dX8_isChange_58 : dec mX8_isChange 58 = .ok (.invokestatic 152, 3) := by decide +kernel
theorem dX8_isChange_61 : dec mX8_isChange 61 = .ok (.ifCond .eq 7, 3) := by decide +kernel
theorem dX8_isChange_64 : dec mX8_isChange 64 = .ok (.iconst 1, 1) := by decide +kernel
theorem dX8_isChange_65 : dec mX8_isChange 65 = .ok (.goto 29, 3) := by decide +kernel
theorem dX8_isChange_68 : dec mX8_isChange 68 = .ok (.iconst 0, 1) := by decide +kernel
theorem dX8_isChange_69 : dec mX8_isChange 69 = .ok (.goto 25, 3) := by decide +kernel
theorem dX8_isChange_72 : dec mX8_isChange 72 = .ok (.iload_n 2, 1) := by decide +kernel
theorem dX8_isChange_73 : dec mX8_isChange 73 = .ok (.aload_n 0, 1) := by decide +kernel
theorem dX8_isChange_74 : dec mX8_isChange 74 = .ok (.invokestatic 47, 3) := by decide +kernel
theorem dX8_isChange_77 : dec mX8_isChange 77 = .ok (.if_icmp .ge 16, 3) := by decide +kernel
theorem dX8_isChange_80 : dec mX8_isChange 80 = .ok (.aload_n 0, 1) := by decide +kernel
theorem dX8_isChange_81 : dec mX8_isChange 81 = .ok (.iload_n 2, 1) := by decide +kernel
theorem dX8_isChange_82 : dec mX8_isChange 82 = .ok (.invokestatic 91, 3) := by decide +kernel
theorem dX8_isChange_85 : dec mX8_isChange 85 = .ok (.iconst (-1), 1) := by decide +kernel
theorem dX8_isChange_86 : dec mX8_isChange 86 = .ok (.if_icmp .eq 7, 3) := by decide +kernel
theorem dX8_isChange_89 : dec mX8_isChange 89 = .ok (.iconst 1, 1) := by decide +kernel
theorem dX8_isChange_90 : dec mX8_isChange 90 = .ok (.goto 4, 3) := by decide +kernel
theorem dX8_isChange_93 : dec mX8_isChange 93 = .ok (.iconst 0, 1) := by decide +kernel
theorem dX8_isChange_94 : dec mX8_isChange 94 = .ok (.ireturn, 1) := by decide +kernel
theorem dX8_gain_0 : dec mX8_gain 0 = .ok (.aload_n 0, 1) := by decide +kernel
theorem dX8_gain_1 : dec mX8_gain 1 = .ok (.aload_n 0, 1) := by decide +kernel
theorem dX8_gain_2 : dec mX8_gain 2 = .ok (.getfield 13, 3) := by decide +kernel
theorem dX8_gain_5 : dec mX8_gain 5 = .ok (.iload_n 1, 1) := by decide +kernel
theorem dX8_gain_6 : dec mX8_gain 6 = .ok (.invokestatic 267, 3) := by decide +kernel
theorem dX8_gain_9 : dec mX8_gain 9 = .ok (.ifCond .eq 7, 3) := by decide +kernel
theorem dX8_gain_12 : dec mX8_gain 12 = .ok (.iconst 0, 1) := by decide +kernel
theorem dX8_gain_13 : dec mX8_gain 13 = .ok (.goto 4, 3) := by decide +kernel
theorem dX8_gain_16 : dec mX8_gain 16 = .ok (.iconst 1, 1) := by decide +kernel
theorem dX8_gain_17 : dec mX8_gain 17 = .ok (.invokevirtual 167, 3) := by decide +kernel
theorem dX8_gain_20 : dec mX8_gain 20 = .ok (.ifCond .eq 5, 3) := by decide +kernel
theorem dX8_gain_23 : dec mX8_gain 23 = .ok (.iconst 0, 1) := by decide +kernel
theorem dX8_gain_24 : dec mX8_gain 24 = .ok (.ireturn, 1) := by decide +kernel
theorem dX8_gain_25 : dec mX8_gain 25 = .ok (.iload_n 1, 1) := by decide +kernel
theorem dX8_gain_26 : dec mX8_gain 26 = .ok (.sipush 10000, 3) := by decide +kernel
theorem dX8_gain_29 : dec mX8_gain 29 = .ok (.irem, 1) := by decide +kernel
theorem dX8_gain_30 : dec mX8_gain 30 = .ok (.istore_n 2, 1) := by decide +kernel
theorem dX8_gain_31 : dec mX8_gain 31 = .ok (.iload_n 1, 1) := by decide +kernel
theorem dX8_gain_32 : dec mX8_gain 32 = .ok (.sipush 10000, 3) := by decide +kernel
theorem dX8_gain_35 : dec mX8_gain 35 = .ok (.if_icmp .ge 21, 3) := by decide +kernel
theorem dX8_gain_38 : dec mX8_gain 38 = .ok (.aload_n 0, 1) := by decide +kernel
theorem dX8_gain_39 : dec mX8_gain 39 = .ok (.getfield 13, 3) := by decide +kernel
theorem dX8_gain_42 : dec mX8_gain 42 = .ok (.aload_n 0, 1) := by decide +kernel
theorem dX8_gain_43 : dec mX8_gain 43 = .ok (.getfield 13, 3) := by decide +kernel
theorem dX8_gain_46 : dec mX8_gain 46 = .ok (.iload_n 2, 1) := by decide +kernel
theorem dX8_gain_47 : dec mX8_gain 47 = .ok (.invokestatic 123, 3) := by decide +kernel
theorem dX8_gain_50 : dec mX8_gain 50 = .ok (.invokestatic 94, 3) := by decide +kernel
theorem dX8_gain_53 : dec mX8_gain 53 = .ok (.goto 50, 3) := by decide +kernel
theorem dX8_gain_56 : dec mX8_gain 56 = .ok (.iload_n 1, 1) := by decide +kernel
theorem dX8_gain_57 : dec mX8_gain 57 = .ok (.sipush 20000, 3) := by decide +kernel
theorem dX8_gain_60 : dec mX8_gain 60 = .ok (.if_icmp .ge 35, 3) := by decide +kernel
theorem dX8_gain_63 : dec mX8_gain 63 = .ok (.aload_n 0, 1) := by decide +kernel
theorem dX8_gain_64 : dec mX8_gain 64 = .ok (.getfield 13, 3) := by decide +kernel
theorem dX8_gain_67 : dec mX8_gain 67 = .ok (.aload_n 0, 1) := by decide +kernel
theorem dX8_gain_68 : dec mX8_gain 68 = .ok (.getfield 13, 3) := by decide +kernel
theorem dX8_gain_71 : dec mX8_gain 71 = .ok (.iload_n 2, 1) := by decide +kernel
theorem dX8_gain_72 : dec mX8_gain 72 = .ok (.bipush 100, 2) := by decide +kernel
theorem dX8_gain_74 : dec mX8_gain 74 = .ok (.idiv, 1) := by decide +kernel
theorem dX8_gain_75 : dec mX8_gain 75 = .ok (.invokestatic 123, 3) := by decide +kernel
theorem dX8_gain_78 : dec mX8_gain 78 = .ok (.aload_n 0, 1) := by decide +kernel
theorem dX8_gain_79 : dec mX8_gain 79 = .ok (.getfield 13, 3) := by decide +kernel
theorem dX8_gain_82 : dec mX8_gain 82 = .ok (.iload_n 2, 1) := by decide +kernel
theorem dX8_gain_83 : dec mX8_gain 83 = .ok (.bipush 100, 2) := by decide +kernel
theorem dX8_gain_85 : dec mX8_gain 85 = .ok (.irem, 1) := by decide +kernel
theorem dX8_gain_86 : dec mX8_gain 86 = .ok (.invokestatic 123, 3) := by decide +kernel
theorem dX8_gain_89 : dec mX8_gain 89 = .ok (.invokestatic 97, 3) := by decide +kernel
theorem dX8_gain_92 : dec mX8_gain 92 = .ok (.goto 11, 3) := by decide +kernel
theorem dX8_gain_95 : dec mX8_gain 95 = .ok (.aload_n 0, 1) := by decide +kernel
theorem dX8_gain_96 : dec mX8_gain 96 = .ok (.getfield 13, 3) := by decide +kernel
theorem dX8_gain_99 : dec mX8_gain 99 = .ok (.iload_n 2, 1) := by decide +kernel
theorem dX8_gain_100 : dec mX8_gain 100 = .ok (.invokestatic 103, 3) := by decide +kernel
theorem dX8_gain_103 : dec mX8_gain 103 = .ok (.ireturn, 1) := by decide +kernel
theorem dX8_best_0 : dec mX8_best 0 = .ok (.aload_n 0, 1) := by decide +kernel
theorem dX8_best_1 : dec mX8_best 1 = .ok (.iload_n 1, 1) := by decide +kernel
theorem dX8_best_2 : dec mX8_best 2 = .ok (.i2l, 1) := by decide +kernel
theorem dX8_best_3 : dec mX8_best 3 = .ok (.lconst 0, 1) := by decide +kernel
theorem dX8_best_4 : dec mX8_best 4 = .ok (.lconst 1, 1) := by decide +kernel
theorem dX8_best_5 : dec mX8_best 5 = .ok (.invokestatic 50, 3) := by decide +kernel
theorem dX8_best_8 : dec mX8_best 8 = .ok (.ifCond .eq 7, 3) := by decide +kernel
theorem dX8_best_11 : dec mX8_best 11 = .ok (.iconst 0, 1) := by decide +kernel
theorem dX8_best_12 : dec mX8_best 12 = .ok (.goto 4, 3) := by decide +kernel
theorem dX8_best_15 : dec mX8_best 15 = .ok (.iconst 1, 1) := by decide +kernel
theorem dX8_best_16 : dec mX8_best 16 = .ok (.invokevirtual 167, 3) := by decide +kernel
theorem dX8_best_19 : dec mX8_best 19 = .ok (.ifCond .eq 5, 3) := by decide +kernel
theorem dX8_best_22 : dec mX8_best 22 = .ok (.iconst 0, 1) := by decide +kernel
theorem dX8_best_23 : dec mX8_best 23 = .ok (.ireturn, 1) := by decide +kernel
theorem dX8_best_24 : dec mX8_best 24 = .ok (.aload_n 0, 1) := by decide +kernel
theorem dX8_best_25 : dec mX8_best 25 = .ok (.aload_n 0, 1) := by decide +kernel
theorem dX8_best_26 : dec mX8_best 26 = .ok (.getfield 13, 3) := by decide +kernel
theorem dX8_best_29 : dec mX8_best 29 = .ok (.invokevirtual 138, 3) := by decide +kernel
theorem dX8_best_32 : dec mX8_best 32 = .ok (.iload_n 1, 1) := by decide +kernel
theorem dX8_best_33 : dec mX8_best 33 = .ok (.ifCond .ne 10, 3) := by decide +kernel
theorem dX8_best_36 : dec mX8_best 36 = .ok (.aload_n 0, 1) := by decide +kernel
theorem dX8_best_37 : dec mX8_best 37 = .ok (.getfield 106, 3) := by decide +kernel
theorem dX8_best_40 : dec mX8_best 40 = .ok (.goto 7, 3) := by decide +kernel
theorem dX8_best_43 : dec mX8_best 43 = .ok (.aload_n 0, 1) := by decide +kernel
theorem dX8_best_44 : dec mX8_best 44 = .ok (.getfield 109, 3) := by decide +kernel
theorem dX8_best_47 : dec mX8_best 47 = .ok (.ireturn, 1) := by decide +kernel
theorem dX8_ifImproved_0 : dec mX8_ifImproved 0 = .ok (.aload_n 0, 1) := by decide +kernel
theorem dX8_ifImproved_1 : dec mX8_ifImproved 1 = .ok (.iload_n 1, 1) := by decide +kernel
theorem dX8_ifImproved_2 : dec mX8_ifImproved 2 = .ok (.i2l, 1) := by decide +kernel
theorem dX8_ifImproved_3 : dec mX8_ifImproved 3 = .ok (.lconst 1, 1) := by decide +kernel
theorem dX8_ifImproved_4 : dec mX8_ifImproved 4 = .ok (.ldc2_w 263, 3) := by decide +kernel
theorem dX8_ifImproved_7 : dec mX8_ifImproved 7 = .ok (.invokestatic 50, 3) := by decide +kernel
theorem dX8_ifImproved_10 : dec mX8_ifImproved 10 = .ok (.ifCond .eq 17, 3) := by decide +kernel
theorem dX8_ifImproved_13 : dec mX8_ifImproved 13 = .ok (.iload_n 2, 1) := by decide +kernel
theorem dX8_ifImproved_14 : dec mX8_ifImproved 14 = .ok (.i2l, 1) := by decide +kernel
theorem dX8_ifImproved_15 : dec mX8_ifImproved 15 = .ok (.lconst 0, 1) := by decide +kernel
theorem dX8_ifImproved_16 : dec mX8_ifImproved 16 = .ok (.lconst 1, 1) := by decide +kernel
theorem dX8_ifImproved_17 : dec mX8_ifImproved 17 = .ok (.invokestatic 50, 3) := by decide +kernel
theorem dX8_ifImproved_20 : dec mX8_ifImproved 20 = .ok (.ifCond .eq 7, 3) := by decide +kernel
theorem dX8_ifImproved_23 : dec mX8_ifImproved 23 = .ok (.iconst 0, 1) := by decide +kernel
theorem dX8_ifImproved_24 : dec mX8_ifImproved 24 = .ok (.goto 4, 3) := by decide +kernel
theorem dX8_ifImproved_27 : dec mX8_ifImproved 27 = .ok (.iconst 1, 1) := by decide +kernel
theorem dX8_ifImproved_28 : dec mX8_ifImproved 28 = .ok (.invokevirtual 167, 3) := by decide +kernel
theorem dX8_ifImproved_31 : dec mX8_ifImproved 31 = .ok (.ifCond .eq 5, 3) := by decide +kernel
theorem dX8_ifImproved_34 : dec mX8_ifImproved 34 = .ok (.iconst 0, 1) := by decide +kernel
theorem dX8_ifImproved_35 : dec mX8_ifImproved 35 = .ok (.ireturn, 1) := by decide +kernel
theorem dX8_ifImproved_36 : dec mX8_ifImproved 36 = .ok (.aload_n 0, 1) := by decide +kernel
theorem dX8_ifImproved_37 : dec mX8_ifImproved 37 = .ok (.getfield 13, 3) := by decide +kernel
theorem dX8_ifImproved_40 : dec mX8_ifImproved 40 = .ok (.iconst 0, 1) := by decide +kernel
theorem dX8_ifImproved_41 : dec mX8_ifImproved 41 = .ok (.aload_n 0, 1) := by decide +kernel
theorem dX8_ifImproved_42 : dec mX8_ifImproved 42 = .ok (.getfield 16, 3) := by decide +kernel
theorem dX8_ifImproved_45 : dec mX8_ifImproved 45 = .ok (.iconst 0, 1) := by decide +kernel
theorem dX8_ifImproved_46 : dec mX8_ifImproved 46 = .ok (.invokestatic 234, 3) := by decide +kernel
theorem dX8_ifImproved_49 : dec mX8_ifImproved 49 = .ok (.aload_n 0, 1) := by decide +kernel
theorem dX8_ifImproved_50 : dec mX8_ifImproved 50 = .ok (.aload_n 0, 1) := by decide +kernel
theorem dX8_ifImproved_51 : dec mX8_ifImproved 51 = .ok (.getfield 16, 3) := by decide +kernel
theorem dX8_ifImproved_54 : dec mX8_ifImproved 54 = .ok (.iload_n 1, 1) := by decide +kernel
theorem dX8_ifImproved_55 : dec mX8_ifImproved 55 = .ok (.invokevirtual 225, 3) := by decide +kernel
theorem dX8_ifImproved_58 : dec mX8_ifImproved 58 = .ok (.istore_n 3, 1) := by decide +kernel
theorem dX8_ifImproved_59 : dec mX8_ifImproved 59 = .ok (.iload_n 2, 1) := by decide +kernel
theorem dX8_ifImproved_60 : dec mX8_ifImproved 60 = .ok (.ifCond .ne 7, 3) := by decide +kernel
theorem dX8_ifImproved_63 : dec mX8_ifImproved 63 = .ok (.iload_n 3, 1) := by decide +kernel
theorem dX8_ifImproved_64 : dec mX8_ifImproved 64 = .ok (.goto 7, 3) := by decide +kernel
theorem dX8_ifImproved_67 : dec mX8_ifImproved 67 = .ok (.aload_n 0, 1) := by decide +kernel
theorem dX8_ifImproved_68 : dec mX8_ifImproved 68 = .ok (.getfield 135, 3) := by decide +kernel
theorem dX8_ifImproved_71 : dec mX8_ifImproved 71 = .ok (.ireturn, 1) := by decide +kernel
theorem dX8_least_0 : dec mX8_least 0 = .ok (.aload_n 0, 1) := by decide +kernel
theorem dX8_least_1 : dec mX8_least 1 = .ok (.iconst 0, 1) := by decide +kernel
theorem dX8_least_2 : dec mX8_least 2 = .ok (.putfield 36, 3) := by decide +kernel
theorem dX8_least_5 : dec mX8_least 5 = .ok (.iconst 0, 1) := by decide +kernel
theorem dX8_least_6 : dec mX8_least 6 = .ok (.istore_n 1, 1) := by decide +kernel
theorem dX8_least_7 : dec mX8_least 7 = .ok (.iconst 0, 1) := by decide +kernel
theorem dX8_least_8 : dec mX8_least 8 = .ok (.istore_n 2, 1) := by decide +kernel
theorem dX8_least_9 : dec mX8_least 9 = .ok (.iload_n 2, 1) := by decide +kernel
theorem dX8_least_10 : dec mX8_least 10 = .ok (.aload_n 0, 1) := by decide +kernel
theorem dX8_least_11 : dec mX8_least 11 = .ok (.getfield 13, 3) := by decide +kernel
theorem dX8_least_14 : dec mX8_least 14 = .ok (.invokestatic 47, 3) := by decide +kernel
theorem dX8_least_17 : dec mX8_least 17 = .ok (.if_icmp .ge 72, 3) := by decide +kernel
theorem dX8_least_20 : dec mX8_least 20 = .ok (.aload_n 0, 1) := by decide +kernel
theorem dX8_least_21 : dec mX8_least 21 = .ok (.getfield 13, 3) := by decide +kernel
theorem dX8_least_24 : dec mX8_least 24 = .ok (.iload_n 2, 1) := by decide +kernel
theorem dX8_least_25 : dec mX8_least 25 = .ok (.iconst 0, 1) := by decide +kernel
theorem dX8_least_26 : dec mX8_least 26 = .ok (.invokestatic 67, 3) := by decide +kernel
theorem dX8_least_29 : dec mX8_least 29 = .ok (.istore_n 3, 1) := by decide +kernel
theorem dX8_least_30 : dec mX8_least 30 = .ok (.iconst 1, 1) := by decide +kernel
theorem dX8_least_31 : dec mX8_least 31 = .ok (.istore 4, 2) := by decide +kernel
theorem dX8_least_33 : dec mX8_least 33 = .ok (.iload 4, 2) := by decide +kernel
theorem dX8_least_35 : dec mX8_least 35 = .ok (.aload_n 0, 1) := by decide +kernel
theorem dX8_least_36 : dec mX8_least 36 = .ok (.getfield 13, 3) := by decide +kernel
theorem dX8_least_39 : dec mX8_least 39 = .ok (.iconst 0, 1) := by decide +kernel
theorem dX8_least_40 : dec mX8_least 40 = .ok (.iaload, 1) := by decide +kernel
theorem dX8_least_41 : dec mX8_least 41 = .ok (.if_icmp .gt 38, 3) := by decide +kernel
theorem dX8_least_44 : dec mX8_least 44 = .ok (.aload_n 0, 1) := by decide +kernel
theorem dX8_least_45 : dec mX8_least 45 = .ok (.getfield 13, 3) := by decide +kernel
theorem dX8_least_48 : dec mX8_least 48 = .ok (.iload_n 2, 1) := by decide +kernel
theorem dX8_least_49 : dec mX8_least 49 = .ok (.iload 4, 2) := by decide +kernel
theorem dX8_least_51 : dec mX8_least 51 = .ok (.invokestatic 67, 3) := by decide +kernel
theorem dX8_least_54 : dec mX8_least 54 = .ok (.iload_n 3, 1) := by decide +kernel
theorem dX8_least_55 : dec mX8_least 55 = .ok (.if_icmp .ge 16, 3) := by decide +kernel
theorem dX8_least_58 : dec mX8_least 58 = .ok (.aload_n 0, 1) := by decide +kernel
theorem dX8_least_59 : dec mX8_least 59 = .ok (.getfield 13, 3) := by decide +kernel
theorem dX8_least_62 : dec mX8_least 62 = .ok (.iload_n 2, 1) := by decide +kernel
theorem dX8_least_63 : dec mX8_least 63 = .ok (.iload 4, 2) := by decide +kernel
theorem dX8_least_65 : dec mX8_least 65 = .ok (.invokestatic 67, 3) := by decide +kernel
theorem dX8_least_68 : dec mX8_least 68 = .ok (.goto 4, 3) := by decide +kernel
theorem dX8_least_71 : dec mX8_least 71 = .ok (.iload_n 3, 1) := by decide +kernel
theorem dX8_least_72 : dec mX8_least 72 = .ok (.istore_n 3, 1) := by decide +kernel
theorem dX8_least_73 : dec mX8_least 73 = .ok (.iinc 4 1, 3) := by decide +kernel
theorem dX8_least_76 : dec mX8_least 76 = .ok (.goto (-43), 3) := by decide +kernel
theorem dX8_least_79 : dec mX8_least 79 = .ok (.iload_n 1, 1) := by decide +kernel
theorem dX8_least_80 : dec mX8_least 80 = .ok (.iload_n 3, 1) := by decide +kernel
theorem dX8_least_81 : dec mX8_least 81 = .ok (.iadd, 1) := by decide +kernel
theorem dX8_least_82 : dec mX8_least 82 = .ok (.istore_n 1, 1) := by decide +kernel
theorem dX8_least_83 : dec mX8_least 83 = .ok (.iinc 2 1, 3) := by decide +kernel
theorem dX8_least_86 : dec mX8_least 86 = .ok (.goto (-77), 3) := by decide +kernel
theorem dX8_least_89 : dec mX8_least 89 = .ok (.iload_n 1, 1) := by decide +kernel
theorem dX8_least_90 : dec mX8_least 90 = .ok (.ireturn, 1) := by decide +kernel
theorem dX8_worst_0 : dec mX8_worst 0 = .ok (.aload_n 0, 1) := by decide +kernel
theorem dX8_worst_1 : dec mX8_worst 1 = .ok (.aload_n 0, 1) := by decide +kernel
theorem dX8_worst_2 : dec mX8_worst 2 = .ok (.getfield 13, 3) := by decide +kernel
theorem dX8_worst_5 : dec mX8_worst 5 = .ok (.iload_n 1, 1) := by decide +kernel
theorem dX8_worst_6 : dec mX8_worst 6 = .ok (.invokestatic 152, 3) := by decide +kernel
theorem dX8_worst_9 : dec mX8_worst 9 = .ok (.ifCond .eq 7, 3) := by decide +kernel
theorem dX8_worst_12 : dec mX8_worst 12 = .ok (.iconst 0, 1) := by decide +kernel
theorem dX8_worst_13 : dec mX8_worst 13 = .ok (.goto 4, 3) := by decide +kernel
theorem dX8_worst_16 : dec mX8_worst 16 = .ok (.iconst 1, 1) := by decide +kernel
theorem dX8_worst_17 : dec mX8_worst 17 = .ok (.invokevirtual 167, 3) := by decide +kernel
theorem dX8_worst_20 : dec mX8_worst 20 = .ok (.ifCond .eq 5, 3) := by decide +kernel
theorem dX8_worst_23 : dec mX8_worst 23 = .ok (.iconst 0, 1) := by decide +kernel
theorem dX8_worst_24 : dec mX8_worst 24 = .ok (.ireturn, 1) := by decide +kernel
theorem dX8_worst_25 : dec mX8_worst 25 = .ok (.iconst 0, 1) := by decide +kernel
theorem dX8_worst_26 : dec mX8_worst 26 = .ok (.istore_n 2, 1) := by decide +kernel
theorem dX8_worst_27 : dec mX8_worst 27 = .ok (.iload_n 2, 1) := by decide +kernel
theorem dX8_worst_28 : dec mX8_worst 28 = .ok (.aload_n 0, 1) := by decide +kernel
theorem dX8_worst_29 : dec mX8_worst 29 = .ok (.getfield 13, 3) := by decide +kernel
theorem dX8_worst_32 : dec mX8_worst 32 = .ok (.invokestatic 54, 3) := by decide +kernel
theorem dX8_worst_35 : dec mX8_worst 35 = .ok (.if_icmp .ge 103, 3) := by decide +kernel
theorem dX8_worst_38 : dec mX8_worst 38 = .ok (.aload_n 0, 1) := by decide +kernel
theorem dX8_worst_39 : dec mX8_worst 39 = .ok (.getfield 13, 3) := by decide +kernel
theorem dX8_worst_42 : dec mX8_worst 42 = .ok (.aload_n 0, 1) := by decide +kernel
theorem dX8_worst_43 : dec mX8_worst 43 = .ok (.getfield 13, 3) := by decide +kernel
theorem dX8_worst_46 : dec mX8_worst 46 = .ok (.iload_n 2, 1) := by decide +kernel
theorem dX8_worst_47 : dec mX8_worst 47 = .ok (.invokestatic 123, 3) := by decide +kernel
theorem dX8_worst_50 : dec mX8_worst 50 = .ok (.invokestatic 85, 3) := by decide +kernel
theorem dX8_worst_53 : dec mX8_worst 53 = .ok (.istore_n 3, 1) := by decide +kernel
theorem dX8_worst_54 : dec mX8_worst 54 = .ok (.iconst 0, 1) := by decide +kernel
theorem dX8_worst_55 : dec mX8_worst 55 = .ok (.istore 4, 2) := by decide +kernel
theorem dX8_worst_57 : dec mX8_worst 57 = .ok (.iconst 0, 1) := by decide +kernel
theorem dX8_worst_58 : dec mX8_worst 58 = .ok (.istore 5, 2) := by decide +kernel
theorem dX8_worst_60 : dec mX8_worst 60 = .ok (.iload 5, 2) := by decide +kernel
theorem dX8_worst_62 : dec mX8_worst 62 = .ok (.aload_n 0, 1) := by decide +kernel
theorem dX8_worst_63 : dec mX8_worst 63 = .ok (.getfield 13, 3) := by decide +kernel
theorem dX8_worst_66 : dec mX8_worst 66 = .ok (.invokestatic 54, 3) := by decide +kernel
theorem dX8_worst_69 : dec mX8_worst 69 = .ok (.if_icmp .ge 55, 3) := by decide +kernel
theorem dX8_worst_72 : dec mX8_worst 72 = .ok (.aload_n 0, 1) := by decide +kernel
theorem dX8_worst_73 : dec mX8_worst 73 = .ok (.getfield 13, 3) := by decide +kernel
theorem dX8_worst_76 : dec mX8_worst 76 = .ok (.aload_n 0, 1) := by decide +kernel
theorem dX8_worst_77 : dec mX8_worst 77 = .ok (.getfield 13, 3) := by decide +kernel
theorem dX8_worst_80 : dec mX8_worst 80 = .ok (.iload 5, 2) := by decide +kernel
theorem dX8_worst_82 : dec mX8_worst 82 = .ok (.invokestatic 123, 3) := by decide +kernel
theorem dX8_worst_85 : dec mX8_worst 85 = .ok (.invokestatic 85, 3) := by decide +kernel
theorem dX8_worst_88 : dec mX8_worst 88 = .ok (.istore 6, 2) := by decide +kernel
theorem dX8_worst_90 : dec mX8_worst 90 = .ok (.iload 4, 2) := by decide +kernel
theorem dX8_worst_92 : dec mX8_worst 92 = .ok (.iload 6, 2) := by decide +kernel
theorem dX8_worst_94 : dec mX8_worst 94 = .ok (.iload_n 3, 1) := by decide +kernel
theorem dX8_worst_95 : dec mX8_worst 95 = .ok (.if_icmp .gt 15, 3) := by decide +kernel
theorem dX8_worst_98 : dec mX8_worst 98 = .ok (.iload 6, 2) := by decide +kernel
theorem dX8_worst_100 : dec mX8_worst 100 = .ok (.iload_n 3, 1) := by decide +kernel
theorem dX8_worst_101 : dec mX8_worst 101 = .ok (.if_icmp .ne 13, 3) := by decide +kernel
theorem dX8_worst_104 : dec mX8_worst 104 = .ok (.iload 5, 2) := by decide +kernel
theorem dX8_worst_106 : dec mX8_worst 106 = .ok (.iload_n 2, 1) := by decide +kernel
theorem dX8_worst_107 : dec mX8_worst 107 = .ok (.if_icmp .ge 7, 3) := by decide +kernel
theorem dX8_worst_110 : dec mX8_worst 110 = .ok (.iconst 1, 1) := by decide +kernel
theorem dX8_worst_111 : dec mX8_worst 111 = .ok (.goto 4, 3) := by decide +kernel
theorem dX8_worst_114 : dec mX8_worst 114 = .ok (.iconst 0, 1) := by decide +kernel
theorem dX8_worst_115 : dec mX8_worst 115 = .ok (.iadd, 1) := by decide +kernel
theorem dX8_worst_116 : dec mX8_worst 116 = .ok (.istore 4, 2) := by decide +kernel
theorem dX8_worst_118 : dec mX8_worst 118 = .ok (.iinc 5 1, 3) := by decide +kernel
theorem dX8_worst_121 : dec mX8_worst 121 = .ok (.goto (-61), 3) := by decide +kernel
theorem dX8_worst_124 : dec mX8_worst 124 = .ok (.iload 4, 2) := by decide +kernel
theorem dX8_worst_126 : dec mX8_worst 126 = .ok (.iload_n 1, 1) := by decide +kernel
theorem dX8_worst_127 : dec mX8_worst 127 = .ok (.if_icmp .ne 5, 3) := by decide +kernel
theorem dX8_worst_130 : dec mX8_worst 130 = .ok (.iload_n 2, 1) := by decide +kernel
theorem dX8_worst_131 : dec mX8_worst 131 = .ok (.ireturn, 1) := by decide +kernel
theorem dX8_worst_132 : dec mX8_worst 132 = .ok (.iinc 2 1, 3) := by decide +kernel
theorem dX8_worst_135 : dec mX8_worst 135 = .ok (.goto (-108), 3) := by decide +kernel
theorem dX8_worst_138 : dec mX8_worst 138 = .ok (.iconst (-1), 1) := by decide +kernel
theorem dX8_worst_139 : dec mX8_worst 139 = .ok (.ireturn, 1) := by decide +kernel
theorem dX8_fits_0 : dec mX8_fits 0 = .ok (.aload_n 0, 1) := by decide +kernel
theorem dX8_fits_1 : dec mX8_fits 1 = .ok (.aload_n 0, 1) := by decide +kernel
theorem dX8_fits_2 : dec mX8_fits 2 = .ok (.getfield 13, 3) := by decide +kernel
theorem dX8_fits_5 : dec mX8_fits 5 = .ok (.iload_n 1, 1) := by decide +kernel
theorem dX8_fits_6 : dec mX8_fits 6 = .ok (.invokestatic 152, 3) := by decide +kernel
theorem dX8_fits_9 : dec mX8_fits 9 = .ok (.ifCond .eq 7, 3) := by decide +kernel
theorem dX8_fits_12 : dec mX8_fits 12 = .ok (.iconst 0, 1) := by decide +kernel
theorem dX8_fits_13 : dec mX8_fits 13 = .ok (.goto 4, 3) := by decide +kernel
theorem dX8_fits_16 : dec mX8_fits 16 = .ok (.iconst 1, 1) := by decide +kernel
theorem dX8_fits_17 : dec mX8_fits 17 = .ok (.invokevirtual 167, 3) := by decide +kernel
theorem dX8_fits_20 : dec mX8_fits 20 = .ok (.ifCond .eq 5, 3) := by decide +kernel
theorem dX8_fits_23 : dec mX8_fits 23 = .ok (.iconst 0, 1) := by decide +kernel
theorem dX8_fits_24 : dec mX8_fits 24 = .ok (.ireturn, 1) := by decide +kernel
theorem dX8_fits_25 : dec mX8_fits 25 = .ok (.iconst (-1), 1) := by decide +kernel
theorem dX8_fits_26 : dec mX8_fits 26 = .ok (.istore_n 2, 1) := by decide +kernel
theorem dX8_fits_27 : dec mX8_fits 27 = .ok (.iconst 0, 1) := by decide +kernel
theorem dX8_fits_28 : dec mX8_fits 28 = .ok (.istore_n 3, 1) := by decide +kernel
theorem dX8_fits_29 : dec mX8_fits 29 = .ok (.iconst 0, 1) := by decide +kernel
theorem dX8_fits_30 : dec mX8_fits 30 = .ok (.istore 4, 2) := by decide +kernel
theorem dX8_fits_32 : dec mX8_fits 32 = .ok (.iload 4, 2) := by decide +kernel
theorem dX8_fits_34 : dec mX8_fits 34 = .ok (.aload_n 0, 1) := by decide +kernel
theorem dX8_fits_35 : dec mX8_fits 35 = .ok (.getfield 13, 3) := by decide +kernel
theorem dX8_fits_38 : dec mX8_fits 38 = .ok (.invokestatic 54, 3) := by decide +kernel
theorem dX8_fits_41 : dec mX8_fits 41 = .ok (.if_icmp .ge 83, 3) := by decide +kernel
theorem dX8_fits_44 : dec mX8_fits 44 = .ok (.aload_n 0, 1) := by decide +kernel
theorem dX8_fits_45 : dec mX8_fits 45 = .ok (.getfield 13, 3) := by decide +kernel
theorem dX8_fits_48 : dec mX8_fits 48 = .ok (.iload 4, 2) := by decide +kernel
theorem dX8_fits_50 : dec mX8_fits 50 = .ok (.invokestatic 123, 3) := by decide +kernel
theorem dX8_fits_53 : dec mX8_fits 53 = .ok (.istore 5, 2) := by decide +kernel
theorem dX8_fits_55 : dec mX8_fits 55 = .ok (.aload_n 0, 1) := by decide +kernel
theorem dX8_fits_56 : dec mX8_fits 56 = .ok (.getfield 13, 3) := by decide +kernel
theorem dX8_fits_59 : dec mX8_fits 59 = .ok (.iload 5, 2) := by decide +kernel
theorem dX8_fits_61 : dec mX8_fits 61 = .ok (.aload_n 0, 1) := by decide +kernel
theorem dX8_fits_62 : dec mX8_fits 62 = .ok (.getfield 13, 3) := by decide +kernel
theorem dX8_fits_65 : dec mX8_fits 65 = .ok (.iload 5, 2) := by decide +kernel
theorem dX8_fits_67 : dec mX8_fits 67 = .ok (.invokestatic 82, 3) := by decide +kernel
theorem dX8_fits_70 : dec mX8_fits 70 = .ok (.iload_n 1, 1) := by decide +kernel
theorem dX8_fits_71 : dec mX8_fits 71 = .ok (.invokestatic 88, 3) := by decide +kernel
theorem dX8_fits_74 : dec mX8_fits 74 = .ok (.istore 6, 2) := by decide +kernel
theorem dX8_fits_76 : dec mX8_fits 76 = .ok (.iload_n 2, 1) := by decide +kernel
theorem dX8_fits_77 : dec mX8_fits 77 = .ok (.iconst (-1), 1) := by decide +kernel
theorem dX8_fits_78 : dec mX8_fits 78 = .ok (.if_icmp .eq 9, 3) := by decide +kernel
theorem dX8_fits_81 : dec mX8_fits 81 = .ok (.iload 6, 2) := by decide +kernel
theorem dX8_fits_83 : dec mX8_fits 83 = .ok (.iload_n 3, 1) := by decide +kernel
theorem dX8_fits_84 : dec mX8_fits 84 = .ok (.if_icmp .ge 7, 3) := by decide +kernel
theorem dX8_fits_87 : dec mX8_fits 87 = .ok (.iconst 1, 1) := by decide +kernel
theorem dX8_fits_88 : dec mX8_fits 88 = .ok (.goto 4, 3) := by decide +kernel
theorem dX8_fits_91 : dec mX8_fits 91 = .ok (.iconst 0, 1) := by decide +kernel
theorem dX8_fits_92 : dec mX8_fits 92 = .ok (.istore 7, 2) := by decide +kernel
theorem dX8_fits_94 : dec mX8_fits 94 = .ok (.iload 7, 2) := by decide +kernel
theorem dX8_fits_96 : dec mX8_fits 96 = .ok (.ifCond .eq 8, 3) := by decide +kernel
theorem dX8_fits_99 : dec mX8_fits 99 = .ok (.iload 4, 2) := by decide +kernel
theorem dX8_fits_101 : dec mX8_fits 101 = .ok (.goto 4, 3) := by decide +kernel
theorem dX8_fits_104 : dec mX8_fits 104 = .ok (.iload_n 2, 1) := by decide +kernel
theorem dX8_fits_105 : dec mX8_fits 105 = .ok (.istore_n 2, 1) := by decide +kernel
theorem dX8_fits_106 : dec mX8_fits 106 = .ok (.iload 7, 2) := by decide +kernel
theorem dX8_fits_108 : dec mX8_fits 108 = .ok (.ifCond .eq 8, 3) := by decide +kernel
theorem dX8_fits_111 : dec mX8_fits 111 = .ok (.iload 6, 2) := by decide +kernel
theorem dX8_fits_113 : dec mX8_fits 113 = .ok (.goto 4, 3) := by decide +kernel
theorem dX8_fits_116 : dec mX8_fits 116 = .ok (.iload_n 3, 1) := by decide +kernel
theorem dX8_fits_117 : dec mX8_fits 117 = .ok (.istore_n 3, 1) := by decide +kernel
theorem dX8_fits_118 : dec mX8_fits 118 = .ok (.iinc 4 1, 3) := by decide +kernel
theorem dX8_fits_121 : dec mX8_fits 121 = .ok (.goto (-89), 3) := by decide +kernel
theorem dX8_fits_124 : dec mX8_fits 124 = .ok (.iload_n 2, 1) := by decide +kernel
theorem dX8_fits_125 : dec mX8_fits 125 = .ok (.ireturn, 1) := by decide +kernel
theorem dX8_command_0 : dec mX8_command 0 = .ok (.iload_n 2, 1) := by decide +kernel
theorem dX8_command_1 : dec mX8_command 1 = .ok (.sipush 10000, 3) := by decide +kernel
theorem dX8_command_4 : dec mX8_command 4 = .ok (.idiv, 1) := by decide +kernel
theorem dX8_command_5 : dec mX8_command 5 = .ok (.istore_n 3, 1) := by decide +kernel
theorem dX8_command_6 : dec mX8_command 6 = .ok (.iload_n 2, 1) := by decide +kernel
theorem dX8_command_7 : dec mX8_command 7 = .ok (.bipush 100, 2) := by decide +kernel
theorem dX8_command_9 : dec mX8_command 9 = .ok (.idiv, 1) := by decide +kernel
theorem dX8_command_10 : dec mX8_command 10 = .ok (.bipush 100, 2) := by decide +kernel
theorem dX8_command_12 : dec mX8_command 12 = .ok (.irem, 1) := by decide +kernel
theorem dX8_command_13 : dec mX8_command 13 = .ok (.istore 4, 2) := by decide +kernel
theorem dX8_command_15 : dec mX8_command 15 = .ok (.iload_n 2, 1) := by decide +kernel
theorem dX8_command_16 : dec mX8_command 16 = .ok (.bipush 100, 2) := by decide +kernel
theorem dX8_command_18 : dec mX8_command 18 = .ok (.irem, 1) := by decide +kernel
theorem dX8_command_19 : dec mX8_command 19 = .ok (.istore 5, 2) := by decide +kernel
theorem dX8_command_21 : dec mX8_command 21 = .ok (.iload_n 2, 1) := by decide +kernel
theorem dX8_command_22 : dec mX8_command 22 = .ok (.sipush 1000, 3) := by decide +kernel
theorem dX8_command_25 : dec mX8_command 25 = .ok (.idiv, 1) := by decide +kernel
theorem dX8_command_26 : dec mX8_command 26 = .ok (.istore 6, 2) := by decide +kernel
theorem dX8_command_28 : dec mX8_command 28 = .ok (.iload_n 2, 1) := by decide +kernel
theorem dX8_command_29 : dec mX8_command 29 = .ok (.bipush 10, 2) := by decide +kernel
theorem dX8_command_31 : dec mX8_command 31 = .ok (.idiv, 1) := by decide +kernel
theorem dX8_command_32 : dec mX8_command 32 = .ok (.bipush 100, 2) := by decide +kernel
theorem dX8_command_34 : dec mX8_command 34 = .ok (.irem, 1) := by decide +kernel
theorem dX8_command_35 : dec mX8_command 35 = .ok (.istore 7, 2) := by decide +kernel
theorem dX8_command_37 : dec mX8_command 37 = .ok (.iload_n 2, 1) := by decide +kernel
theorem dX8_command_38 : dec mX8_command 38 = .ok (.bipush 10, 2) := by decide +kernel
theorem dX8_command_40 : dec mX8_command 40 = .ok (.irem, 1) := by decide +kernel
theorem dX8_command_41 : dec mX8_command 41 = .ok (.istore 8, 2) := by decide +kernel
theorem dX8_command_43 : dec mX8_command 43 = .ok (.iload 5, 2) := by decide +kernel
theorem dX8_command_45 : dec mX8_command 45 = .ok (.bipush 10, 2) := by decide +kernel
theorem dX8_command_47 : dec mX8_command 47 = .ok (.idiv, 1) := by decide +kernel
theorem dX8_command_48 : dec mX8_command 48 = .ok (.istore 9, 2) := by decide +kernel
theorem dX8_command_50 : dec mX8_command 50 = .ok (.iload_n 1, 1) := by decide +kernel
theorem dX8_command_51 : dec mX8_command 51 = .ok (.tableswitch 366 1 9 #[49, 83, 110, 136, 161, 191, 249, 301, 349], 49) := by decide +kernel
theorem dX8_command_100 : dec mX8_command 100 = .ok (.aload_n 0, 1) := by decide +kernel
theorem dX8_command_101 : dec mX8_command 101 = .ok (.getfield 16, 3) := by decide +kernel
theorem dX8_command_104 : dec mX8_command 104 = .ok (.iload_n 3, 1) := by decide +kernel
theorem dX8_command_105 : dec mX8_command 105 = .ok (.iload 4, 2) := by decide +kernel
theorem dX8_command_107 : dec mX8_command 107 = .ok (.invokestatic 158, 3) := by decide +kernel
theorem dX8_command_110 : dec mX8_command 110 = .ok (.ifCond .eq 22, 3) := by decide +kernel
theorem dX8_command_113 : dec mX8_command 113 = .ok (.aload_n 0, 1) := by decide +kernel
theorem dX8_command_114 : dec mX8_command 114 = .ok (.getfield 16, 3) := by decide +kernel
theorem dX8_command_117 : dec mX8_command 117 = .ok (.iload_n 3, 1) := by decide +kernel
theorem dX8_command_118 : dec mX8_command 118 = .ok (.iload 4, 2) := by decide +kernel
theorem dX8_command_120 : dec mX8_command 120 = .ok (.iload 5, 2) := by decide +kernel
theorem dX8_command_122 : dec mX8_command 122 = .ok (.invokestatic 195, 3) := by decide +kernel
theorem dX8_command_125 : dec mX8_command 125 = .ok (.ifCond .lt 7, 3) := by decide +kernel
theorem dX8_command_128 : dec mX8_command 128 = .ok (.iconst 1, 1) := by decide +kernel
theorem dX8_command_129 : dec mX8_command 129 = .ok (.goto 4, 3) := by decide +kernel
theorem dX8_command_132 : dec mX8_command 132 = .ok (.iconst 0, 1) := by decide +kernel
theorem dX8_command_133 : dec mX8_command 133 = .ok (.ireturn, 1) := by decide +kernel
theorem dX8_command_134 : dec mX8_command 134 = .ok (.iload_n 2, 1) := by decide +kernel
theorem dX8_command_135 : dec mX8_command 135 = .ok (.sipush 1000, 3) := by decide +kernel
theorem dX8_command_138 : dec mX8_command 138 = .ok (.irem, 1) := by decide +kernel
theorem dX8_command_139 : dec mX8_command 139 = .ok (.ifCond .ne 20, 3) := by decide +kernel
theorem dX8_command_142 : dec mX8_command 142 = .ok (.aload_n 0, 1) := by decide +kernel
theorem dX8_command_143 : dec mX8_command 143 = .ok (.aload_n 0, 1) := by decide +kernel
theorem dX8_command_144 : dec mX8_command 144 = .ok (.getfield 16, 3) := by decide +kernel
theorem dX8_command_147 : dec mX8_command 147 = .ok (.iload 6, 2) := by decide +kernel
theorem dX8_command_149 : dec mX8_command 149 = .ok (.invokevirtual 209, 3) := by decide +kernel
theorem dX8_command_152 : dec mX8_command 152 = .ok (.ifCond .eq 7, 3) := by decide +kernel
theorem dX8_command_155 : dec mX8_command 155 = .ok (.iconst 1, 1) := by decide +kernel
theorem dX8_command_156 : dec mX8_command 156 = .ok (.goto 4, 3) := by decide +kernel
theorem dX8_command_159 : dec mX8_command 159 = .ok (.iconst 0, 1) := by decide +kernel
theorem dX8_command_160 : dec mX8_command 160 = .ok (.ireturn, 1) := by decide +kernel
theorem dX8_command_161 : dec mX8_command 161 = .ok (.iload 8, 2) := by decide +kernel
theorem dX8_command_163 : dec mX8_command 163 = .ok (.ifCond .ne 22, 3) := by decide +kernel
theorem dX8_command_166 : dec mX8_command 166 = .ok (.aload_n 0, 1) := by decide +kernel
theorem dX8_command_167 : dec mX8_command 167 = .ok (.aload_n 0, 1) := by decide +kernel
theorem dX8_command_168 : dec mX8_command 168 = .ok (.getfield 16, 3) := by decide +kernel
theorem dX8_command_171 : dec mX8_command 171 = .ok (.iload 6, 2) := by decide +kernel
theorem dX8_command_173 : dec mX8_command 173 = .ok (.iload 7, 2) := by decide +kernel
theorem dX8_command_175 : dec mX8_command 175 = .ok (.invokevirtual 212, 3) := by decide +kernel
theorem dX8_command_178 : dec mX8_command 178 = .ok (.ifCond .eq 7, 3) := by decide +kernel
theorem dX8_command_181 : dec mX8_command 181 = .ok (.iconst 1, 1) := by decide +kernel
theorem dX8_command_182 : dec mX8_command 182 = .ok (.goto 4, 3) := by decide +kernel
theorem dX8_command_185 : dec mX8_command 185 = .ok (.iconst 0, 1) := by decide +kernel
theorem dX8_command_186 : dec mX8_command 186 = .ok (.ireturn, 1) := by decide +kernel
theorem dX8_command_187 : dec mX8_command 187 = .ok (.iload 5, 2) := by decide +kernel
theorem dX8_command_189 : dec mX8_command 189 = .ok (.ifCond .ne 21, 3) := by decide +kernel
theorem dX8_command_192 : dec mX8_command 192 = .ok (.aload_n 0, 1) := by decide +kernel
theorem dX8_command_193 : dec mX8_command 193 = .ok (.aload_n 0, 1) := by decide +kernel
theorem dX8_command_194 : dec mX8_command 194 = .ok (.getfield 16, 3) := by decide +kernel
theorem dX8_command_197 : dec mX8_command 197 = .ok (.iload_n 3, 1) := by decide +kernel
theorem dX8_command_198 : dec mX8_command 198 = .ok (.iload 4, 2) := by decide +kernel
theorem dX8_command_200 : dec mX8_command 200 = .ok (.invokevirtual 215, 3) := by decide +kernel
theorem dX8_command_203 : dec mX8_command 203 = .ok (.ifCond .eq 7, 3) := by decide +kernel
theorem dX8_command_206 : dec mX8_command 206 = .ok (.iconst 1, 1) := by decide +kernel
theorem dX8_command_207 : dec mX8_command 207 = .ok (.goto 4, 3) := by decide +kernel
theorem dX8_command_210 : dec mX8_command 210 = .ok (.iconst 0, 1) := by decide +kernel
theorem dX8_command_211 : dec mX8_command 211 = .ok (.ireturn, 1) := by decide +kernel
theorem dX8_command_212 : dec mX8_command 212 = .ok (.iload_n 2, 1) := by decide +kernel
theorem dX8_command_213 : dec mX8_command 213 = .ok (.i2l, 1) := by decide +kernel
theorem dX8_command_214 : dec mX8_command 214 = .ok (.lconst 1, 1) := by decide +kernel
theorem dX8_command_215 : dec mX8_command 215 = .ok (.ldc2_w 263, 3) := by decide +kernel
theorem dX8_command_218 : dec mX8_command 218 = .ok (.invokestatic 50, 3) := by decide +kernel
theorem dX8_command_221 : dec mX8_command 221 = .ok (.ifCond .eq 19, 3) := by decide +kernel
theorem dX8_command_224 : dec mX8_command 224 = .ok (.aload_n 0, 1) := by decide +kernel
theorem dX8_command_225 : dec mX8_command 225 = .ok (.aload_n 0, 1) := by decide +kernel
theorem dX8_command_226 : dec mX8_command 226 = .ok (.getfield 16, 3) := by decide +kernel
theorem dX8_command_229 : dec mX8_command 229 = .ok (.iload_n 2, 1) := by decide +kernel
theorem dX8_command_230 : dec mX8_command 230 = .ok (.invokevirtual 225, 3) := by decide +kernel
theorem dX8_command_233 : dec mX8_command 233 = .ok (.ifCond .lt 7, 3) := by decide +kernel
theorem dX8_command_236 : dec mX8_command 236 = .ok (.iconst 1, 1) := by decide +kernel
theorem dX8_command_237 : dec mX8_command 237 = .ok (.goto 4, 3) := by decide +kernel
theorem dX8_command_240 : dec mX8_command 240 = .ok (.iconst 0, 1) := by decide +kernel
theorem dX8_command_241 : dec mX8_command 241 = .ok (.ireturn, 1) := by decide +kernel
theorem dX8_command_242 : dec mX8_command 242 = .ok (.iload 8, 2) := by decide +kernel
theorem dX8_command_244 : dec mX8_command 244 = .ok (.ifCond .ne 54, 3) := by decide +kernel
theorem dX8_command_247 : dec mX8_command 247 = .ok (.aload_n 0, 1) := by decide +kernel
theorem dX8_command_248 : dec mX8_command 248 = .ok (.getfield 16, 3) := by decide +kernel
theorem dX8_command_251 : dec mX8_command 251 = .ok (.iload 6, 2) := by decide +kernel
theorem dX8_command_253 : dec mX8_command 253 = .ok (.invokestatic 152, 3) := by decide +kernel
theorem dX8_command_256 : dec mX8_command 256 = .ok (.ifCond .eq 42, 3) := by decide +kernel
theorem dX8_command_259 : dec mX8_command 259 = .ok (.aload_n 0, 1) := by decide +kernel
theorem dX8_command_260 : dec mX8_command 260 = .ok (.getfield 16, 3) := by decide +kernel
theorem dX8_command_263 : dec mX8_command 263 = .ok (.iload 7, 2) := by decide +kernel
theorem dX8_command_265 : dec mX8_command 265 = .ok (.invokestatic 152, 3) := by decide +kernel
theorem dX8_command_268 : dec mX8_command 268 = .ok (.ifCond .eq 30, 3) := by decide +kernel
theorem dX8_command_271 : dec mX8_command 271 = .ok (.aload_n 0, 1) := by decide +kernel
theorem dX8_command_272 : dec mX8_command 272 = .ok (.getfield 16, 3) := by decide +kernel
theorem dX8_command_275 : dec mX8_command 275 = .ok (.sipush 227, 3) := by decide +kernel
theorem dX8_command_278 : dec mX8_command 278 = .ok (.aload_n 0, 1) := by decide +kernel
theorem dX8_command_279 : dec mX8_command 279 = .ok (.getfield 16, 3) := by decide +kernel
theorem dX8_command_282 : dec mX8_command 282 = .ok (.iload 6, 2) := by decide +kernel
theorem dX8_command_284 : dec mX8_command 284 = .ok (.invokestatic 123, 3) := by decide +kernel
theorem dX8_command_287 : dec mX8_command 287 = .ok (.iadd, 1) := by decide +kernel
theorem dX8_command_288 : dec mX8_command 288 = .ok (.iaload, 1) := by decide +kernel
theorem dX8_command_289 : dec mX8_command 289 = .ok (.iload 7, 2) := by decide +kernel
theorem dX8_command_291 : dec mX8_command 291 = .ok (.if_icmp .ne 7, 3) := by decide +kernel
theorem dX8_command_294 : dec mX8_command 294 = .ok (.iconst 1, 1) := by decide +kernel
theorem dX8_command_295 : dec mX8_command 295 = .ok (.goto 4, 3) := by decide +kernel
theorem dX8_command_298 : dec mX8_command 298 = .ok (.iconst 0, 1) := by decide +kernel
theorem dX8_command_299 : dec mX8_command 299 = .ok (.ireturn, 1) := by decide +kernel
theorem dX8_command_300 : dec mX8_command 300 = .ok (.iload 7, 2) := by decide +kernel
theorem dX8_command_302 : dec mX8_command 302 = .ok (.ifCond .ne 48, 3) := by decide +kernel
theorem dX8_command_305 : dec mX8_command 305 = .ok (.iload 8, 2) := by decide +kernel
theorem dX8_command_307 : dec mX8_command 307 = .ok (.iconst 2, 1) := by decide +kernel
theorem dX8_command_308 : dec mX8_command 308 = .ok (.if_icmp .ge 42, 3) := by decide +kernel
theorem dX8_command_311 : dec mX8_command 311 = .ok (.aload_n 0, 1) := by decide +kernel
theorem dX8_command_312 : dec mX8_command 312 = .ok (.getfield 16, 3) := by decide +kernel
theorem dX8_command_315 : dec mX8_command 315 = .ok (.iload 6, 2) := by decide +kernel
theorem dX8_command_317 : dec mX8_command 317 = .ok (.invokestatic 152, 3) := by decide +kernel
theorem dX8_command_320 : dec mX8_command 320 = .ok (.ifCond .eq 30, 3) := by decide +kernel
theorem dX8_command_323 : dec mX8_command 323 = .ok (.aload_n 0, 1) := by decide +kernel
theorem dX8_command_324 : dec mX8_command 324 = .ok (.getfield 16, 3) := by decide +kernel
theorem dX8_command_327 : dec mX8_command 327 = .ok (.sipush 339, 3) := by decide +kernel
theorem dX8_command_330 : dec mX8_command 330 = .ok (.aload_n 0, 1) := by decide +kernel
theorem dX8_command_331 : dec mX8_command 331 = .ok (.getfield 16, 3) := by decide +kernel
theorem dX8_command_334 : dec mX8_command 334 = .ok (.iload 6, 2) := by decide +kernel
theorem dX8_command_336 : dec mX8_command 336 = .ok (.invokestatic 123, 3) := by decide +kernel
theorem dX8_command_339 : dec mX8_command 339 = .ok (.iadd, 1) := by decide +kernel
theorem dX8_command_340 : dec mX8_command 340 = .ok (.iaload, 1) := by decide +kernel
theorem dX8_command_341 : dec mX8_command 341 = .ok (.iload 8, 2) := by decide +kernel
theorem dX8_command_343 : dec mX8_command 343 = .ok (.if_icmp .ne 7, 3) := by decide +kernel
theorem dX8_command_346 : dec mX8_command 346 = .ok (.iconst 1, 1) := by decide +kernel
theorem dX8_command_347 : dec mX8_command 347 = .ok (.goto 4, 3) := by decide +kernel
theorem dX8_command_350 : dec mX8_command 350 = .ok (.iconst 0, 1) := by decide +kernel
theorem dX8_command_351 : dec mX8_command 351 = .ok (.ireturn, 1) := by decide +kernel
theorem dX8_command_352 : dec mX8_command 352 = .ok (.iload 8, 2) := by decide +kernel
theorem dX8_command_354 : dec mX8_command 354 = .ok (.ifCond .ne 44, 3) := by decide +kernel
theorem dX8_command_357 : dec mX8_command 357 = .ok (.aload_n 0, 1) := by decide +kernel
theorem dX8_command_358 : dec mX8_command 358 = .ok (.getfield 16, 3) := by decide +kernel
theorem dX8_command_361 : dec mX8_command 361 = .ok (.iload_n 3, 1) := by decide +kernel
theorem dX8_command_362 : dec mX8_command 362 = .ok (.iload 4, 2) := by decide +kernel
theorem dX8_command_364 : dec mX8_command 364 = .ok (.invokestatic 158, 3) := by decide +kernel
theorem dX8_command_367 : dec mX8_command 367 = .ok (.ifCond .eq 31, 3) := by decide +kernel
theorem dX8_command_370 : dec mX8_command 370 = .ok (.aload_n 0, 1) := by decide +kernel
theorem dX8_command_371 : dec mX8_command 371 = .ok (.getfield 16, 3) := by decide +kernel
theorem dX8_command_374 : dec mX8_command 374 = .ok (.aload_n 0, 1) := by decide +kernel
theorem dX8_command_375 : dec mX8_command 375 = .ok (.getfield 16, 3) := by decide +kernel
theorem dX8_command_378 : dec mX8_command 378 = .ok (.invokestatic 40, 3) := by decide +kernel
theorem dX8_command_381 : dec mX8_command 381 = .ok (.iload 4, 2) := by decide +kernel
theorem dX8_command_383 : dec mX8_command 383 = .ok (.imul, 1) := by decide +kernel
theorem dX8_command_384 : dec mX8_command 384 = .ok (.iload_n 3, 1) := by decide +kernel
theorem dX8_command_385 : dec mX8_command 385 = .ok (.iadd, 1) := by decide +kernel
theorem dX8_command_386 : dec mX8_command 386 = .ok (.invokestatic 245, 3) := by decide +kernel
theorem dX8_command_389 : dec mX8_command 389 = .ok (.iload 9, 2) := by decide +kernel
theorem dX8_command_391 : dec mX8_command 391 = .ok (.if_icmp .ne 7, 3) := by decide +kernel
theorem dX8_command_394 : dec mX8_command 394 = .ok (.iconst 1, 1) := by decide +kernel
theorem dX8_command_395 : dec mX8_command 395 = .ok (.goto 4, 3) := by decide +kernel
theorem dX8_command_398 : dec mX8_command 398 = .ok (.iconst 0, 1) := by decide +kernel
theorem dX8_command_399 : dec mX8_command 399 = .ok (.ireturn, 1) := by decide +kernel
theorem dX8_command_400 : dec mX8_command 400 = .ok (.aload_n 0, 1) := by decide +kernel
theorem dX8_command_401 : dec mX8_command 401 = .ok (.getfield 16, 3) := by decide +kernel
theorem dX8_command_404 : dec mX8_command 404 = .ok (.invokestatic 146, 3) := by decide +kernel
theorem dX8_command_407 : dec mX8_command 407 = .ok (.iload_n 2, 1) := by decide +kernel
theorem dX8_command_408 : dec mX8_command 408 = .ok (.if_icmp .gt 7, 3) := by decide +kernel
theorem dX8_command_411 : dec mX8_command 411 = .ok (.iconst 1, 1) := by decide +kernel
theorem dX8_command_412 : dec mX8_command 412 = .ok (.goto 4, 3) := by decide +kernel
theorem dX8_command_415 : dec mX8_command 415 = .ok (.iconst 0, 1) := by decide +kernel
theorem dX8_command_416 : dec mX8_command 416 = .ok (.ireturn, 1) := by decide +kernel
theorem dX8_command_417 : dec mX8_command 417 = .ok (.iconst 0, 1) := by decide +kernel
theorem dX8_command_418 : dec mX8_command 418 = .ok (.ireturn, 1) := by decide +kernel
theorem dX8_runScript_0 : dec mX8_runScript 0 = .ok (.lconst 1, 1) := by decide +kernel
theorem dX8_runScript_1 : dec mX8_runScript 1 = .ok (.lstore 4, 2) := by decide +kernel
theorem dX8_runScript_3 : dec mX8_runScript 3 = .ok (.iconst 0, 1) := by decide +kernel
theorem dX8_runScript_4 : dec mX8_runScript 4 = .ok (.istore 6, 2) := by decide +kernel
theorem dX8_runScript_6 : dec mX8_runScript 6 = .ok (.iload 6, 2) := by decide +kernel
theorem dX8_runScript_8 : dec mX8_runScript 8 = .ok (.iload_n 1, 1) := by decide +kernel
theorem dX8_runScript_9 : dec mX8_runScript 9 = .ok (.if_icmp .ge 23, 3) := by decide +kernel
theorem dX8_runScript_12 : dec mX8_runScript 12 = .ok (.iload 6, 2) := by decide +kernel
theorem dX8_runScript_14 : dec mX8_runScript 14 = .ok (.iconst 3, 1) := by decide +kernel
theorem dX8_runScript_15 : dec mX8_runScript 15 = .ok (.if_icmp .ge 17, 3) := by decide +kernel
theorem dX8_runScript_18 : dec mX8_runScript 18 = .ok (.lload 4, 2) := by decide +kernel
theorem dX8_runScript_20 : dec mX8_runScript 20 = .ok (.ldc2_w 270, 3) := by decide +kernel
theorem dX8_runScript_23 : dec mX8_runScript 23 = .ok (.lmul, 1) := by decide +kernel
theorem dX8_runScript_24 : dec mX8_runScript 24 = .ok (.lstore 4, 2) := by decide +kernel
theorem dX8_runScript_26 : dec mX8_runScript 26 = .ok (.iinc 6 1, 3) := by decide +kernel
theorem dX8_runScript_29 : dec mX8_runScript 29 = .ok (.goto (-23), 3) := by decide +kernel
theorem dX8_runScript_32 : dec mX8_runScript 32 = .ok (.aload_n 0, 1) := by decide +kernel
theorem dX8_runScript_33 : dec mX8_runScript 33 = .ok (.iload_n 1, 1) := by decide +kernel
theorem dX8_runScript_34 : dec mX8_runScript 34 = .ok (.i2l, 1) := by decide +kernel
theorem dX8_runScript_35 : dec mX8_runScript 35 = .ok (.lconst 1, 1) := by decide +kernel
theorem dX8_runScript_36 : dec mX8_runScript 36 = .ok (.ldc2_w 272, 3) := by decide +kernel
theorem dX8_runScript_39 : dec mX8_runScript 39 = .ok (.invokestatic 50, 3) := by decide +kernel
theorem dX8_runScript_42 : dec mX8_runScript 42 = .ok (.ifCond .eq 19, 3) := by decide +kernel
theorem dX8_runScript_45 : dec mX8_runScript 45 = .ok (.lload_n 2, 1) := by decide +kernel
theorem dX8_runScript_46 : dec mX8_runScript 46 = .ok (.lconst 0, 1) := by decide +kernel
theorem dX8_runScript_47 : dec mX8_runScript 47 = .ok (.lload 4, 2) := by decide +kernel
theorem dX8_runScript_49 : dec mX8_runScript 49 = .ok (.lconst 1, 1) := by decide +kernel
theorem dX8_runScript_50 : dec mX8_runScript 50 = .ok (.lsub, 1) := by decide +kernel
theorem dX8_runScript_51 : dec mX8_runScript 51 = .ok (.invokestatic 50, 3) := by decide +kernel
theorem dX8_runScript_54 : dec mX8_runScript 54 = .ok (.ifCond .eq 7, 3) := by decide +kernel
theorem dX8_runScript_57 : dec mX8_runScript 57 = .ok (.iconst 0, 1) := by decide +kernel
theorem dX8_runScript_58 : dec mX8_runScript 58 = .ok (.goto 4, 3) := by decide +kernel
theorem dX8_runScript_61 : dec mX8_runScript 61 = .ok (.iconst 1, 1) := by decide +kernel
theorem dX8_runScript_62 : dec mX8_runScript 62 = .ok (.invokevirtual 167, 3) := by decide +kernel
theorem dX8_runScript_65 : dec mX8_runScript 65 = .ok (.ifCond .eq 5, 3) := by decide +kernel
theorem dX8_runScript_68 : dec mX8_runScript 68 = .ok (.iconst 0, 1) := by decide +kernel
theorem dX8_runScript_69 : dec mX8_runScript 69 = .ok (.ireturn, 1) := by decide +kernel
theorem dX8_runScript_70 : dec mX8_runScript 70 = .ok (.aload_n 0, 1) := by decide +kernel
theorem dX8_runScript_71 : dec mX8_runScript 71 = .ok (.getfield 13, 3) := by decide +kernel
theorem dX8_runScript_74 : dec mX8_runScript 74 = .ok (.iconst 0, 1) := by decide +kernel
theorem dX8_runScript_75 : dec mX8_runScript 75 = .ok (.aload_n 0, 1) := by decide +kernel
theorem dX8_runScript_76 : dec mX8_runScript 76 = .ok (.getfield 16, 3) := by decide +kernel
theorem dX8_runScript_79 : dec mX8_runScript 79 = .ok (.iconst 0, 1) := by decide +kernel
theorem dX8_runScript_80 : dec mX8_runScript 80 = .ok (.invokestatic 234, 3) := by decide +kernel
theorem dX8_runScript_83 : dec mX8_runScript 83 = .ok (.iconst 0, 1) := by decide +kernel
theorem dX8_runScript_84 : dec mX8_runScript 84 = .ok (.istore 6, 2) := by decide +kernel
theorem dX8_runScript_86 : dec mX8_runScript 86 = .ok (.iload 6, 2) := by decide +kernel
theorem dX8_runScript_88 : dec mX8_runScript 88 = .ok (.iload_n 1, 1) := by decide +kernel
theorem dX8_runScript_89 : dec mX8_runScript 89 = .ok (.if_icmp .ge 50, 3) := by decide +kernel
theorem dX8_runScript_92 : dec mX8_runScript 92 = .ok (.lload 4, 2) := by decide +kernel
theorem dX8_runScript_94 : dec mX8_runScript 94 = .ok (.ldc2_w 270, 3) := by decide +kernel
theorem dX8_runScript_97 : dec mX8_runScript 97 = .ok (.ldiv, 1) := by decide +kernel
theorem dX8_runScript_98 : dec mX8_runScript 98 = .ok (.lstore 4, 2) := by decide +kernel
theorem dX8_runScript_100 : dec mX8_runScript 100 = .ok (.lload_n 2, 1) := by decide +kernel
theorem dX8_runScript_101 : dec mX8_runScript 101 = .ok (.lload 4, 2) := by decide +kernel
theorem dX8_runScript_103 : dec mX8_runScript 103 = .ok (.ldiv, 1) := by decide +kernel
theorem dX8_runScript_104 : dec mX8_runScript 104 = .ok (.ldc2_w 270, 3) := by decide +kernel
theorem dX8_runScript_107 : dec mX8_runScript 107 = .ok (.lrem, 1) := by decide +kernel
theorem dX8_runScript_108 : dec mX8_runScript 108 = .ok (.l2i, 1) := by decide +kernel
theorem dX8_runScript_109 : dec mX8_runScript 109 = .ok (.istore 7, 2) := by decide +kernel
theorem dX8_runScript_111 : dec mX8_runScript 111 = .ok (.aload_n 0, 1) := by decide +kernel
theorem dX8_runScript_112 : dec mX8_runScript 112 = .ok (.iload 7, 2) := by decide +kernel
theorem dX8_runScript_114 : dec mX8_runScript 114 = .ok (.ldc_w 274, 3) := by decide +kernel
theorem dX8_runScript_117 : dec mX8_runScript 117 = .ok (.idiv, 1) := by decide +kernel
theorem dX8_runScript_118 : dec mX8_runScript 118 = .ok (.iload 7, 2) := by decide +kernel
theorem dX8_runScript_120 : dec mX8_runScript 120 = .ok (.ldc_w 274, 3) := by decide +kernel
theorem dX8_runScript_123 : dec mX8_runScript 123 = .ok (.irem, 1) := by decide +kernel
theorem dX8_runScript_124 : dec mX8_runScript 124 = .ok (.invokevirtual 275, 3) := by decide +kernel
theorem dX8_runScript_127 : dec mX8_runScript 127 = .ok (.ifCond .ne 6, 3) := by decide +kernel
theorem dX8_runScript_130 : dec mX8_runScript 130 = .ok (.iload 6, 2) := by decide +kernel
theorem dX8_runScript_132 : dec mX8_runScript 132 = .ok (.ireturn, 1) := by decide +kernel
theorem dX8_runScript_133 : dec mX8_runScript 133 = .ok (.iinc 6 1, 3) := by decide +kernel
theorem dX8_runScript_136 : dec mX8_runScript 136 = .ok (.goto (-50), 3) := by decide +kernel
theorem dX8_runScript_139 : dec mX8_runScript 139 = .ok (.iconst (-1), 1) := by decide +kernel
theorem dX8_runScript_140 : dec mX8_runScript 140 = .ok (.ireturn, 1) := by decide +kernel
theorem dX8_turnBy_0 : dec mX8_turnBy 0 = .ok (.iload_n 1, 1) := by decide +kernel
theorem dX8_turnBy_1 : dec mX8_turnBy 1 = .ok (.bipush 8, 2) := by decide +kernel
theorem dX8_turnBy_3 : dec mX8_turnBy 3 = .ok (.idiv, 1) := by decide +kernel
theorem dX8_turnBy_4 : dec mX8_turnBy 4 = .ok (.istore_n 2, 1) := by decide +kernel
theorem dX8_turnBy_5 : dec mX8_turnBy 5 = .ok (.iload_n 1, 1) := by decide +kernel
theorem dX8_turnBy_6 : dec mX8_turnBy 6 = .ok (.bipush 8, 2) := by decide +kernel
theorem dX8_turnBy_8 : dec mX8_turnBy 8 = .ok (.irem, 1) := by decide +kernel
theorem dX8_turnBy_9 : dec mX8_turnBy 9 = .ok (.tableswitch 196 0 6 #[43, 43, 94, 110, 110, 133, 156], 43) := by decide +kernel
theorem dX8_turnBy_52 : dec mX8_turnBy 52 = .ok (.aload_n 0, 1) := by decide +kernel
theorem dX8_turnBy_53 : dec mX8_turnBy 53 = .ok (.getfield 16, 3) := by decide +kernel
theorem dX8_turnBy_56 : dec mX8_turnBy 56 = .ok (.iload_n 2, 1) := by decide +kernel
theorem dX8_turnBy_57 : dec mX8_turnBy 57 = .ok (.bipush 8, 2) := by decide +kernel
theorem dX8_turnBy_59 : dec mX8_turnBy 59 = .ok (.irem, 1) := by decide +kernel
theorem dX8_turnBy_60 : dec mX8_turnBy 60 = .ok (.iload_n 2, 1) := by decide +kernel
theorem dX8_turnBy_61 : dec mX8_turnBy 61 = .ok (.bipush 8, 2) := by decide +kernel
theorem dX8_turnBy_63 : dec mX8_turnBy 63 = .ok (.idiv, 1) := by decide +kernel
theorem dX8_turnBy_64 : dec mX8_turnBy 64 = .ok (.bipush 14, 2) := by decide +kernel
theorem dX8_turnBy_66 : dec mX8_turnBy 66 = .ok (.irem, 1) := by decide +kernel
theorem dX8_turnBy_67 : dec mX8_turnBy 67 = .ok (.invokestatic 158, 3) := by decide +kernel
theorem dX8_turnBy_70 : dec mX8_turnBy 70 = .ok (.ifCond .eq 149, 3) := by decide +kernel
theorem dX8_turnBy_73 : dec mX8_turnBy 73 = .ok (.aload_n 0, 1) := by decide +kernel
theorem dX8_turnBy_74 : dec mX8_turnBy 74 = .ok (.getfield 16, 3) := by decide +kernel
theorem dX8_turnBy_77 : dec mX8_turnBy 77 = .ok (.iload_n 2, 1) := by decide +kernel
theorem dX8_turnBy_78 : dec mX8_turnBy 78 = .ok (.bipush 8, 2) := by decide +kernel
theorem dX8_turnBy_80 : dec mX8_turnBy 80 = .ok (.irem, 1) := by decide +kernel
theorem dX8_turnBy_81 : dec mX8_turnBy 81 = .ok (.iload_n 2, 1) := by decide +kernel
theorem dX8_turnBy_82 : dec mX8_turnBy 82 = .ok (.bipush 8, 2) := by decide +kernel
theorem dX8_turnBy_84 : dec mX8_turnBy 84 = .ok (.idiv, 1) := by decide +kernel
theorem dX8_turnBy_85 : dec mX8_turnBy 85 = .ok (.bipush 14, 2) := by decide +kernel
theorem dX8_turnBy_87 : dec mX8_turnBy 87 = .ok (.irem, 1) := by decide +kernel
theorem dX8_turnBy_88 : dec mX8_turnBy 88 = .ok (.iload_n 2, 1) := by decide +kernel
theorem dX8_turnBy_89 : dec mX8_turnBy 89 = .ok (.sipush 128, 3) := by decide +kernel
theorem dX8_turnBy_92 : dec mX8_turnBy 92 = .ok (.idiv, 1) := by decide +kernel
theorem dX8_turnBy_93 : dec mX8_turnBy 93 = .ok (.bipush 100, 2) := by decide +kernel
theorem dX8_turnBy_95 : dec mX8_turnBy 95 = .ok (.irem, 1) := by decide +kernel
theorem dX8_turnBy_96 : dec mX8_turnBy 96 = .ok (.invokestatic 195, 3) := by decide +kernel
theorem dX8_turnBy_99 : dec mX8_turnBy 99 = .ok (.pop, 1) := by decide +kernel
theorem dX8_turnBy_100 : dec mX8_turnBy 100 = .ok (.goto 119, 3) := by decide +kernel
theorem dX8_turnBy_103 : dec mX8_turnBy 103 = .ok (.aload_n 0, 1) := by decide +kernel
theorem dX8_turnBy_104 : dec mX8_turnBy 104 = .ok (.aload_n 0, 1) := by decide +kernel
theorem dX8_turnBy_105 : dec mX8_turnBy 105 = .ok (.getfield 16, 3) := by decide +kernel
theorem dX8_turnBy_108 : dec mX8_turnBy 108 = .ok (.iload_n 2, 1) := by decide +kernel
theorem dX8_turnBy_109 : dec mX8_turnBy 109 = .ok (.bipush 56, 2) := by decide +kernel
theorem dX8_turnBy_111 : dec mX8_turnBy 111 = .ok (.irem, 1) := by decide +kernel
theorem dX8_turnBy_112 : dec mX8_turnBy 112 = .ok (.invokevirtual 209, 3) := by decide +kernel
theorem dX8_turnBy_115 : dec mX8_turnBy 115 = .ok (.pop, 1) := by decide +kernel
theorem dX8_turnBy_116 : dec mX8_turnBy 116 = .ok (.goto 103, 3) := by decide +kernel
theorem dX8_turnBy_119 : dec mX8_turnBy 119 = .ok (.aload_n 0, 1) := by decide +kernel
theorem dX8_turnBy_120 : dec mX8_turnBy 120 = .ok (.aload_n 0, 1) := by decide +kernel
theorem dX8_turnBy_121 : dec mX8_turnBy 121 = .ok (.getfield 16, 3) := by decide +kernel
theorem dX8_turnBy_124 : dec mX8_turnBy 124 = .ok (.iload_n 2, 1) := by decide +kernel
theorem dX8_turnBy_125 : dec mX8_turnBy 125 = .ok (.bipush 56, 2) := by decide +kernel
theorem dX8_turnBy_127 : dec mX8_turnBy 127 = .ok (.irem, 1) := by decide +kernel
theorem dX8_turnBy_128 : dec mX8_turnBy 128 = .ok (.iload_n 2, 1) := by decide +kernel
theorem dX8_turnBy_129 : dec mX8_turnBy 129 = .ok (.bipush 64, 2) := by decide +kernel
theorem dX8_turnBy_131 : dec mX8_turnBy 131 = .ok (.idiv, 1) := by decide +kernel
theorem dX8_turnBy_132 : dec mX8_turnBy 132 = .ok (.bipush 56, 2) := by decide +kernel
theorem dX8_turnBy_134 : dec mX8_turnBy 134 = .ok (.irem, 1) := by decide +kernel
theorem dX8_turnBy_135 : dec mX8_turnBy 135 = .ok (.invokevirtual 212, 3) := by decide +kernel
theorem dX8_turnBy_138 : dec mX8_turnBy 138 = .ok (.pop, 1) := by decide +kernel
theorem dX8_turnBy_139 : dec mX8_turnBy 139 = .ok (.goto 80, 3) := by decide +kernel
theorem dX8_turnBy_142 : dec mX8_turnBy 142 = .ok (.aload_n 0, 1) := by decide +kernel
theorem dX8_turnBy_143 : dec mX8_turnBy 143 = .ok (.aload_n 0, 1) := by decide +kernel
theorem dX8_turnBy_144 : dec mX8_turnBy 144 = .ok (.getfield 16, 3) := by decide +kernel
theorem dX8_turnBy_147 : dec mX8_turnBy 147 = .ok (.iload_n 2, 1) := by decide +kernel
theorem dX8_turnBy_148 : dec mX8_turnBy 148 = .ok (.bipush 8, 2) := by decide +kernel
theorem dX8_turnBy_150 : dec mX8_turnBy 150 = .ok (.irem, 1) := by decide +kernel
theorem dX8_turnBy_151 : dec mX8_turnBy 151 = .ok (.iload_n 2, 1) := by decide +kernel
theorem dX8_turnBy_152 : dec mX8_turnBy 152 = .ok (.bipush 8, 2) := by decide +kernel
theorem dX8_turnBy_154 : dec mX8_turnBy 154 = .ok (.idiv, 1) := by decide +kernel
theorem dX8_turnBy_155 : dec mX8_turnBy 155 = .ok (.bipush 14, 2) := by decide +kernel
theorem dX8_turnBy_157 : dec mX8_turnBy 157 = .ok (.irem, 1) := by decide +kernel
theorem dX8_turnBy_158 : dec mX8_turnBy 158 = .ok (.invokevirtual 215, 3) := by decide +kernel
theorem dX8_turnBy_161 : dec mX8_turnBy 161 = .ok (.pop, 1) := by decide +kernel
theorem dX8_turnBy_162 : dec mX8_turnBy 162 = .ok (.goto 57, 3) := by decide +kernel
theorem dX8_turnBy_165 : dec mX8_turnBy 165 = .ok (.iload_n 2, 1) := by decide +kernel
theorem dX8_turnBy_166 : dec mX8_turnBy 166 = .ok (.iconst 4, 1) := by decide +kernel
theorem dX8_turnBy_167 : dec mX8_turnBy 167 = .ok (.irem, 1) := by decide +kernel
theorem dX8_turnBy_168 : dec mX8_turnBy 168 = .ok (.ifCond .ne 25, 3) := by decide +kernel
theorem dX8_turnBy_171 : dec mX8_turnBy 171 = .ok (.aload_n 0, 1) := by decide +kernel
theorem dX8_turnBy_172 : dec mX8_turnBy 172 = .ok (.getfield 16, 3) := by decide +kernel
theorem dX8_turnBy_175 : dec mX8_turnBy 175 = .ok (.iload_n 2, 1) := by decide +kernel
theorem dX8_turnBy_176 : dec mX8_turnBy 176 = .ok (.bipush 100, 2) := by decide +kernel
theorem dX8_turnBy_178 : dec mX8_turnBy 178 = .ok (.irem, 1) := by decide +kernel
theorem dX8_turnBy_179 : dec mX8_turnBy 179 = .ok (.iload_n 2, 1) := by decide +kernel
theorem dX8_turnBy_180 : dec mX8_turnBy 180 = .ok (.sipush 128, 3) := by decide +kernel
theorem dX8_turnBy_183 : dec mX8_turnBy 183 = .ok (.idiv, 1) := by decide +kernel
theorem dX8_turnBy_184 : dec mX8_turnBy 184 = .ok (.bipush 100, 2) := by decide +kernel
theorem dX8_turnBy_186 : dec mX8_turnBy 186 = .ok (.irem, 1) := by decide +kernel
theorem dX8_turnBy_187 : dec mX8_turnBy 187 = .ok (.invokestatic 179, 3) := by decide +kernel
theorem dX8_turnBy_190 : dec mX8_turnBy 190 = .ok (.goto 29, 3) := by decide +kernel
theorem dX8_turnBy_193 : dec mX8_turnBy 193 = .ok (.aload_n 0, 1) := by decide +kernel
theorem dX8_turnBy_194 : dec mX8_turnBy 194 = .ok (.aload_n 0, 1) := by decide +kernel
theorem dX8_turnBy_195 : dec mX8_turnBy 195 = .ok (.getfield 16, 3) := by decide +kernel
theorem dX8_turnBy_198 : dec mX8_turnBy 198 = .ok (.invokevirtual 188, 3) := by decide +kernel
theorem dX8_turnBy_201 : dec mX8_turnBy 201 = .ok (.pop, 1) := by decide +kernel
theorem dX8_turnBy_202 : dec mX8_turnBy 202 = .ok (.goto 17, 3) := by decide +kernel
theorem dX8_turnBy_205 : dec mX8_turnBy 205 = .ok (.aload_n 0, 1) := by decide +kernel
theorem dX8_turnBy_206 : dec mX8_turnBy 206 = .ok (.aload_n 0, 1) := by decide +kernel
theorem dX8_turnBy_207 : dec mX8_turnBy 207 = .ok (.getfield 16, 3) := by decide +kernel
theorem dX8_turnBy_210 : dec mX8_turnBy 210 = .ok (.iconst 1, 1) := by decide +kernel
theorem dX8_turnBy_211 : dec mX8_turnBy 211 = .ok (.iload_n 2, 1) := by decide +kernel
theorem dX8_turnBy_212 : dec mX8_turnBy 212 = .ok (.iconst 4, 1) := by decide +kernel
theorem dX8_turnBy_213 : dec mX8_turnBy 213 = .ok (.irem, 1) := by decide +kernel
theorem dX8_turnBy_214 : dec mX8_turnBy 214 = .ok (.iadd, 1) := by decide +kernel
theorem dX8_turnBy_215 : dec mX8_turnBy 215 = .ok (.invokevirtual 225, 3) := by decide +kernel
theorem dX8_turnBy_218 : dec mX8_turnBy 218 = .ok (.pop, 1) := by decide +kernel
theorem dX8_turnBy_219 : dec mX8_turnBy 219 = .ok (.return_, 1) := by decide +kernel
theorem dX8_simulate_0 : dec mX8_simulate 0 = .ok (.aload_n 0, 1) := by decide +kernel
theorem dX8_simulate_1 : dec mX8_simulate 1 = .ok (.iload_n 3, 1) := by decide +kernel
theorem dX8_simulate_2 : dec mX8_simulate 2 = .ok (.i2l, 1) := by decide +kernel
theorem dX8_simulate_3 : dec mX8_simulate 3 = .ok (.lconst 1, 1) := by decide +kernel
theorem dX8_simulate_4 : dec mX8_simulate 4 = .ok (.ldc2_w 279, 3) := by decide +kernel
theorem dX8_simulate_7 : dec mX8_simulate 7 = .ok (.invokestatic 50, 3) := by decide +kernel
theorem dX8_simulate_10 : dec mX8_simulate 10 = .ok (.ifCond .eq 7, 3) := by decide +kernel
theorem dX8_simulate_13 : dec mX8_simulate 13 = .ok (.iconst 0, 1) := by decide +kernel
theorem dX8_simulate_14 : dec mX8_simulate 14 = .ok (.goto 4, 3) := by decide +kernel
theorem dX8_simulate_17 : dec mX8_simulate 17 = .ok (.iconst 1, 1) := by decide +kernel
theorem dX8_simulate_18 : dec mX8_simulate 18 = .ok (.invokevirtual 167, 3) := by decide +kernel
theorem dX8_simulate_21 : dec mX8_simulate 21 = .ok (.ifCond .eq 5, 3) := by decide +kernel
theorem dX8_simulate_24 : dec mX8_simulate 24 = .ok (.iconst 0, 1) := by decide +kernel
theorem dX8_simulate_25 : dec mX8_simulate 25 = .ok (.ireturn, 1) := by decide +kernel
theorem dX8_simulate_26 : dec mX8_simulate 26 = .ok (.aload_n 0, 1) := by decide +kernel
theorem dX8_simulate_27 : dec mX8_simulate 27 = .ok (.getfield 13, 3) := by decide +kernel
theorem dX8_simulate_30 : dec mX8_simulate 30 = .ok (.iconst 0, 1) := by decide +kernel
theorem dX8_simulate_31 : dec mX8_simulate 31 = .ok (.aload_n 0, 1) := by decide +kernel
theorem dX8_simulate_32 : dec mX8_simulate 32 = .ok (.getfield 16, 3) := by decide +kernel
theorem dX8_simulate_35 : dec mX8_simulate 35 = .ok (.iconst 0, 1) := by decide +kernel
theorem dX8_simulate_36 : dec mX8_simulate 36 = .ok (.invokestatic 234, 3) := by decide +kernel
theorem dX8_simulate_39 : dec mX8_simulate 39 = .ok (.lload_n 1, 1) := by decide +kernel
theorem dX8_simulate_40 : dec mX8_simulate 40 = .ok (.lstore 4, 2) := by decide +kernel
theorem dX8_simulate_42 : dec mX8_simulate 42 = .ok (.iconst 0, 1) := by decide +kernel
theorem dX8_simulate_43 : dec mX8_simulate 43 = .ok (.istore 6, 2) := by decide +kernel
theorem dX8_simulate_45 : dec mX8_simulate 45 = .ok (.iload 6, 2) := by decide +kernel
theorem dX8_simulate_47 : dec mX8_simulate 47 = .ok (.iload_n 3, 1) := by decide +kernel
theorem dX8_simulate_48 : dec mX8_simulate 48 = .ok (.if_icmp .ge 31, 3) := by decide +kernel
theorem dX8_simulate_51 : dec mX8_simulate 51 = .ok (.lload 4, 2) := by decide +kernel
theorem dX8_simulate_53 : dec mX8_simulate 53 = .ok (.ldc2_w 281, 3) := by decide +kernel
theorem dX8_simulate_56 : dec mX8_simulate 56 = .ok (.lmul, 1) := by decide +kernel
theorem dX8_simulate_57 : dec mX8_simulate 57 = .ok (.ldc2_w 283, 3) := by decide +kernel
theorem dX8_simulate_60 : dec mX8_simulate 60 = .ok (.ladd, 1) := by decide +kernel
theorem dX8_simulate_61 : dec mX8_simulate 61 = .ok (.lstore 4, 2) := by decide +kernel
theorem dX8_simulate_63 : dec mX8_simulate 63 = .ok (.aload_n 0, 1) := by decide +kernel
theorem dX8_simulate_64 : dec mX8_simulate 64 = .ok (.lload 4, 2) := by decide +kernel
theorem dX8_simulate_66 : dec mX8_simulate 66 = .ok (.bipush 33, 2) := by decide +kernel
theorem dX8_simulate_68 : dec mX8_simulate 68 = .ok (.lushr, 1) := by decide +kernel
theorem dX8_simulate_69 : dec mX8_simulate 69 = .ok (.l2i, 1) := by decide +kernel
theorem dX8_simulate_70 : dec mX8_simulate 70 = .ok (.invokevirtual 285, 3) := by decide +kernel
theorem dX8_simulate_73 : dec mX8_simulate 73 = .ok (.iinc 6 1, 3) := by decide +kernel
theorem dX8_simulate_76 : dec mX8_simulate 76 = .ok (.goto (-31), 3) := by decide +kernel
theorem dX8_simulate_79 : dec mX8_simulate 79 = .ok (.aload_n 0, 1) := by decide +kernel
theorem dX8_simulate_80 : dec mX8_simulate 80 = .ok (.getfield 16, 3) := by decide +kernel
theorem dX8_simulate_83 : dec mX8_simulate 83 = .ok (.invokestatic 146, 3) := by decide +kernel
theorem dX8_simulate_86 : dec mX8_simulate 86 = .ok (.ireturn, 1) := by decide +kernel
theorem dX8_save_0 : dec mX8_save 0 = .ok (.aload_n 0, 1) := by decide +kernel
theorem dX8_save_1 : dec mX8_save 1 = .ok (.iload_n 1, 1) := by decide +kernel
theorem dX8_save_2 : dec mX8_save 2 = .ok (.i2l, 1) := by decide +kernel
theorem dX8_save_3 : dec mX8_save 3 = .ok (.lconst 0, 1) := by decide +kernel
theorem dX8_save_4 : dec mX8_save 4 = .ok (.lconst 1, 1) := by decide +kernel
theorem dX8_save_5 : dec mX8_save 5 = .ok (.invokestatic 50, 3) := by decide +kernel
theorem dX8_save_8 : dec mX8_save 8 = .ok (.ifCond .eq 7, 3) := by decide +kernel
theorem dX8_save_11 : dec mX8_save 11 = .ok (.iconst 0, 1) := by decide +kernel
theorem dX8_save_12 : dec mX8_save 12 = .ok (.goto 4, 3) := by decide +kernel
theorem dX8_save_15 : dec mX8_save 15 = .ok (.iconst 1, 1) := by decide +kernel
theorem dX8_save_16 : dec mX8_save 16 = .ok (.invokevirtual 167, 3) := by decide +kernel
theorem dX8_save_19 : dec mX8_save 19 = .ok (.ifCond .eq 5, 3) := by decide +kernel
theorem dX8_save_22 : dec mX8_save 22 = .ok (.iconst 0, 1) := by decide +kernel
theorem dX8_save_23 : dec mX8_save 23 = .ok (.ireturn, 1) := by decide +kernel
theorem dX8_save_24 : dec mX8_save 24 = .ok (.aload_n 0, 1) := by decide +kernel
theorem dX8_save_25 : dec mX8_save 25 = .ok (.getfield 13, 3) := by decide +kernel
theorem dX8_save_28 : dec mX8_save 28 = .ok (.iconst 0, 1) := by decide +kernel
theorem dX8_save_29 : dec mX8_save 29 = .ok (.aload_n 0, 1) := by decide +kernel
theorem dX8_save_30 : dec mX8_save 30 = .ok (.getfield 22, 3) := by decide +kernel
theorem dX8_save_33 : dec mX8_save 33 = .ok (.sipush 563, 3) := by decide +kernel
theorem dX8_save_36 : dec mX8_save 36 = .ok (.iload_n 1, 1) := by decide +kernel
theorem dX8_save_37 : dec mX8_save 37 = .ok (.imul, 1) := by decide +kernel
theorem dX8_save_38 : dec mX8_save 38 = .ok (.invokestatic 234, 3) := by decide +kernel
theorem dX8_save_41 : dec mX8_save 41 = .ok (.aload_n 0, 1) := by decide +kernel
theorem dX8_save_42 : dec mX8_save 42 = .ok (.getfield 25, 3) := by decide +kernel
theorem dX8_save_45 : dec mX8_save 45 = .ok (.iload_n 1, 1) := by decide +kernel
theorem dX8_save_46 : dec mX8_save 46 = .ok (.iconst 1, 1) := by decide +kernel
theorem dX8_save_47 : dec mX8_save 47 = .ok (.bastore, 1) := by decide +kernel
theorem dX8_save_48 : dec mX8_save 48 = .ok (.aload_n 0, 1) := by decide +kernel
theorem dX8_save_49 : dec mX8_save 49 = .ok (.getfield 13, 3) := by decide +kernel
theorem dX8_save_52 : dec mX8_save 52 = .ok (.invokestatic 146, 3) := by decide +kernel
theorem dX8_save_55 : dec mX8_save 55 = .ok (.ireturn, 1) := by decide +kernel
theorem dX8_restore_0 : dec mX8_restore 0 = .ok (.aload_n 0, 1) := by decide +kernel
theorem dX8_restore_1 : dec mX8_restore 1 = .ok (.iload_n 1, 1) := by decide +kernel
theorem dX8_restore_2 : dec mX8_restore 2 = .ok (.i2l, 1) := by decide +kernel
theorem dX8_restore_3 : dec mX8_restore 3 = .ok (.lconst 0, 1) := by decide +kernel
theorem dX8_restore_4 : dec mX8_restore 4 = .ok (.lconst 1, 1) := by decide +kernel
theorem dX8_restore_5 : dec mX8_restore 5 = .ok (.invokestatic 50, 3) := by decide +kernel
theorem dX8_restore_8 : dec mX8_restore 8 = .ok (.ifCond .ne 7, 3) := by decide +kernel
theorem dX8_restore_11 : dec mX8_restore 11 = .ok (.iconst 1, 1) := by decide +kernel
theorem dX8_restore_12 : dec mX8_restore 12 = .ok (.goto 17, 3) := by decide +kernel
theorem dX8_restore_15 : dec mX8_restore 15 = .ok (.aload_n 0, 1) := by decide +kernel
theorem dX8_restore_16 : dec mX8_restore 16 = .ok (.getfield 25, 3) := by decide +kernel
theorem dX8_restore_19 : dec mX8_restore 19 = .ok (.iload_n 1, 1) := by decide +kernel
theorem dX8_restore_20 : dec mX8_restore 20 = .ok (.baload, 1) := by decide +kernel
theorem dX8_restore_21 : dec mX8_restore 21 = .ok (.ifCond .ne 7, 3) := by decide +kernel
theorem dX8_restore_24 : dec mX8_restore 24 = .ok (.iconst 2, 1) := by decide +kernel
theorem dX8_restore_25 : dec mX8_restore 25 = .ok (.goto 4, 3) := by decide +kernel
theorem dX8_restore_28 : dec mX8_restore 28 = .ok (.iconst 0, 1) := by decide +kernel
theorem dX8_restore_29 : dec mX8_restore 29 = .ok (.invokevirtual 167, 3) := by decide +kernel
theorem dX8_restore_32 : dec mX8_restore 32 = .ok (.ifCond .eq 5, 3) := by decide +kernel
theorem dX8_restore_35 : dec mX8_restore 35 = .ok (.iconst 0, 1) := by decide +kernel
theorem dX8_restore_36 : dec mX8_restore 36 = .ok (.ireturn, 1) := by decide +kernel
theorem dX8_restore_37 : dec mX8_restore 37 = .ok (.aload_n 0, 1) := by decide +kernel
theorem dX8_restore_38 : dec mX8_restore 38 = .ok (.getfield 22, 3) := by decide +kernel
theorem dX8_restore_41 : dec mX8_restore 41 = .ok (.sipush 563, 3) := by decide +kernel
theorem dX8_restore_44 : dec mX8_restore 44 = .ok (.iload_n 1, 1) := by decide +kernel
theorem dX8_restore_45 : dec mX8_restore 45 = .ok (.imul, 1) := by decide +kernel
theorem dX8_restore_46 : dec mX8_restore 46 = .ok (.aload_n 0, 1) := by decide +kernel
theorem dX8_restore_47 : dec mX8_restore 47 = .ok (.getfield 13, 3) := by decide +kernel
theorem dX8_restore_50 : dec mX8_restore 50 = .ok (.iconst 0, 1) := by decide +kernel
theorem dX8_restore_51 : dec mX8_restore 51 = .ok (.invokestatic 234, 3) := by decide +kernel
theorem dX8_restore_54 : dec mX8_restore 54 = .ok (.aload_n 0, 1) := by decide +kernel
theorem dX8_restore_55 : dec mX8_restore 55 = .ok (.iconst 0, 1) := by decide +kernel
theorem dX8_restore_56 : dec mX8_restore 56 = .ok (.putfield 238, 3) := by decide +kernel
theorem dX8_restore_59 : dec mX8_restore 59 = .ok (.aload_n 0, 1) := by decide +kernel
theorem dX8_restore_60 : dec mX8_restore 60 = .ok (.getfield 13, 3) := by decide +kernel
theorem dX8_restore_63 : dec mX8_restore 63 = .ok (.invokestatic 146, 3) := by decide +kernel
theorem dX8_restore_66 : dec mX8_restore 66 = .ok (.ireturn, 1) := by decide +kernel
end
section
theorem dJ9_max_7cf53_0 : dec mJ9_max_7cf53 0 = .ok (.iload_n 0, 1) := by decide +kernel
theorem dJ9_max_7cf53_1 : dec mJ9_max_7cf53 1 = .ok (.iload_n 1, 1) := by decide +kernel
theorem dJ9_max_7cf53_2 : dec mJ9_max_7cf53 2 = .ok (.if_icmp .lt 7, 3) := by decide +kernel
theorem dJ9_max_7cf53_5 : dec mJ9_max_7cf53 5 = .ok (.iload_n 0, 1) := by decide +kernel
theorem dJ9_max_7cf53_6 : dec mJ9_max_7cf53 6 = .ok (.goto 4, 3) := by decide +kernel
theorem dJ9_max_7cf53_9 : dec mJ9_max_7cf53 9 = .ok (.iload_n 1, 1) := by decide +kernel
theorem dJ9_max_7cf53_10 : dec mJ9_max_7cf53 10 = .ok (.ireturn, 1) := by decide +kernel
theorem dJ9_min_7cf53_0 : dec mJ9_min_7cf53 0 = .ok (.iload_n 0, 1) := by decide +kernel
theorem dJ9_min_7cf53_1 : dec mJ9_min_7cf53 1 = .ok (.iload_n 1, 1) := by decide +kernel
theorem dJ9_min_7cf53_2 : dec mJ9_min_7cf53 2 = .ok (.if_icmp .gt 7, 3) := by decide +kernel
theorem dJ9_min_7cf53_5 : dec mJ9_min_7cf53 5 = .ok (.iload_n 0, 1) := by decide +kernel
theorem dJ9_min_7cf53_6 : dec mJ9_min_7cf53 6 = .ok (.goto 4, 3) := by decide +kernel
theorem dJ9_min_7cf53_9 : dec mJ9_min_7cf53 9 = .ok (.iload_n 1, 1) := by decide +kernel
theorem dJ9_min_7cf53_10 : dec mJ9_min_7cf53 10 = .ok (.ireturn, 1) := by decide +kernel
theorem dJ0_length_8abf5_0 : dec mJ0_length_8abf5 0 = .ok (.aload_n 0, 1) := by decide +kernel
theorem dJ0_length_8abf5_1 : dec mJ0_length_8abf5 1 = .ok (.getfield 9, 3) := by decide +kernel
theorem dJ0_length_8abf5_4 : dec mJ0_length_8abf5 4 = .ok (.arraylength, 1) := by decide +kernel
theorem dJ0_length_8abf5_5 : dec mJ0_length_8abf5 5 = .ok (.aload_n 0, 1) := by decide +kernel
theorem dJ0_length_8abf5_6 : dec mJ0_length_8abf5 6 = .ok (.invokevirtual 335, 3) := by decide +kernel
theorem dJ0_length_8abf5_9 : dec mJ0_length_8abf5 9 = .ok (.ishr, 1) := by decide +kernel
theorem dJ0_length_8abf5_10 : dec mJ0_length_8abf5 10 = .ok (.ireturn, 1) := by decide +kernel
theorem dJ0_isEmpty_aae02_0 : dec mJ0_isEmpty_aae02 0 = .ok (.aload_n 0, 1) := by decide +kernel
theorem dJ0_isEmpty_aae02_1 : dec mJ0_isEmpty_aae02 1 = .ok (.getfield 9, 3) := by decide +kernel
theorem dJ0_isEmpty_aae02_4 : dec mJ0_isEmpty_aae02 4 = .ok (.arraylength, 1) := by decide +kernel
theorem dJ0_isEmpty_aae02_5 : dec mJ0_isEmpty_aae02 5 = .ok (.ifCond .ne 7, 3) := by decide +kernel
theorem dJ0_isEmpty_aae02_8 : dec mJ0_isEmpty_aae02 8 = .ok (.iconst 1, 1) := by decide +kernel
theorem dJ0_isEmpty_aae02_9 : dec mJ0_isEmpty_aae02 9 = .ok (.goto 4, 3) := by decide +kernel
theorem dJ0_isEmpty_aae02_12 : dec mJ0_isEmpty_aae02 12 = .ok (.iconst 0, 1) := by decide +kernel
theorem dJ0_isEmpty_aae02_13 : dec mJ0_isEmpty_aae02 13 = .ok (.ireturn, 1) := by decide +kernel
theorem dJ0_charAt_5068e_0 : dec mJ0_charAt_5068e 0 = .ok (.aload_n 0, 1) := by decide +kernel
theorem dJ0_charAt_5068e_1 : dec mJ0_charAt_5068e 1 = .ok (.invokevirtual 492, 3) := by decide +kernel
theorem dJ0_charAt_5068e_4 : dec mJ0_charAt_5068e 4 = .ok (.ifCond .eq 12, 3) := by decide +kernel
theorem dJ0_charAt_5068e_7 : dec mJ0_charAt_5068e 7 = .ok (.aload_n 0, 1) := by decide +kernel
theorem dJ0_charAt_5068e_8 : dec mJ0_charAt_5068e 8 = .ok (.getfield 9, 3) := by decide +kernel
theorem dJ0_charAt_5068e_11 : dec mJ0_charAt_5068e 11 = .ok (.iload_n 1, 1) := by decide +kernel
theorem dJ0_charAt_5068e_12 : dec mJ0_charAt_5068e 12 = .ok (.invokestatic 495, 3) := by decide +kernel
theorem dJ0_charAt_5068e_15 : dec mJ0_charAt_5068e 15 = .ok (.ireturn, 1) := by decide +kernel
theorem dJ0_charAt_5068e_16 : dec mJ0_charAt_5068e 16 = .ok (.aload_n 0, 1) := by decide +kernel
theorem dJ0_charAt_5068e_17 : dec mJ0_charAt_5068e 17 = .ok (.getfield 9, 3) := by decide +kernel
theorem dJ0_charAt_5068e_20 : dec mJ0_charAt_5068e 20 = .ok (.iload_n 1, 1) := by decide +kernel
theorem dJ0_charAt_5068e_21 : dec mJ0_charAt_5068e 21 = .ok (.invokestatic 498, 3) := by decide +kernel
theorem dJ0_charAt_5068e_24 : dec mJ0_charAt_5068e 24 = .ok (.ireturn, 1) := by decide +kernel
theorem dJ0_coder_7d493_0 : dec mJ0_coder_7d493 0 = .ok (.getstatic 38, 3) := by decide +kernel
theorem dJ0_coder_7d493_3 : dec mJ0_coder_7d493 3 = .ok (.ifCond .eq 10, 3) := by decide +kernel
theorem dJ0_coder_7d493_6 : dec mJ0_coder_7d493 6 = .ok (.aload_n 0, 1) := by decide +kernel
theorem dJ0_coder_7d493_7 : dec mJ0_coder_7d493 7 = .ok (.getfield 15, 3) := by decide +kernel
theorem dJ0_coder_7d493_10 : dec mJ0_coder_7d493 10 = .ok (.goto 4, 3) := by decide +kernel
theorem dJ0_coder_7d493_13 : dec mJ0_coder_7d493 13 = .ok (.iconst 1, 1) := by decide +kernel
theorem dJ0_coder_7d493_14 : dec mJ0_coder_7d493 14 = .ok (.ireturn, 1) := by decide +kernel
theorem dJ0_isLatin1_aae02_0 : dec mJ0_isLatin1_aae02 0 = .ok (.getstatic 38, 3) := by decide +kernel
theorem dJ0_isLatin1_aae02_3 : dec mJ0_isLatin1_aae02 3 = .ok (.ifCond .eq 14, 3) := by decide +kernel
theorem dJ0_isLatin1_aae02_6 : dec mJ0_isLatin1_aae02 6 = .ok (.aload_n 0, 1) := by decide +kernel
theorem dJ0_isLatin1_aae02_7 : dec mJ0_isLatin1_aae02 7 = .ok (.getfield 15, 3) := by decide +kernel
theorem dJ0_isLatin1_aae02_10 : dec mJ0_isLatin1_aae02 10 = .ok (.ifCond .ne 7, 3) := by decide +kernel
theorem dJ0_isLatin1_aae02_13 : dec mJ0_isLatin1_aae02 13 = .ok (.iconst 1, 1) := by decide +kernel
theorem dJ0_isLatin1_aae02_14 : dec mJ0_isLatin1_aae02 14 = .ok (.goto 4, 3) := by decide +kernel
theorem dJ0_isLatin1_aae02_17 : dec mJ0_isLatin1_aae02 17 = .ok (.iconst 0, 1) := by decide +kernel
theorem dJ0_isLatin1_aae02_18 : dec mJ0_isLatin1_aae02 18 = .ok (.ireturn, 1) := by decide +kernel
theorem dJ0_checkIndex_df160_0 : dec mJ0_checkIndex_df160 0 = .ok (.iload_n 0, 1) := by decide +kernel
theorem dJ0_checkIndex_df160_1 : dec mJ0_checkIndex_df160 1 = .ok (.iload_n 1, 1) := by decide +kernel
theorem dJ0_checkIndex_df160_2 : dec mJ0_checkIndex_df160 2 = .ok (.getstatic 1053, 3) := by decide +kernel
theorem dJ0_checkIndex_df160_5 : dec mJ0_checkIndex_df160 5 = .ok (.invokestatic 1059, 3) := by decide +kernel
theorem dJ0_checkIndex_df160_8 : dec mJ0_checkIndex_df160 8 = .ok (.pop, 1) := by decide +kernel
theorem dJ0_checkIndex_df160_9 : dec mJ0_checkIndex_df160 9 = .ok (.return_, 1) := by decide +kernel
theorem dJ1_charAt_3b067_0 : dec mJ1_charAt_3b067 0 = .ok (.iload_n 1, 1) := by decide +kernel
theorem dJ1_charAt_3b067_1 : dec mJ1_charAt_3b067 1 = .ok (.aload_n 0, 1) := by decide +kernel
theorem dJ1_charAt_3b067_2 : dec mJ1_charAt_3b067 2 = .ok (.arraylength, 1) := by decide +kernel
theorem dJ1_charAt_3b067_3 : dec mJ1_charAt_3b067 3 = .ok (.invokestatic 9, 3) := by decide +kernel
theorem dJ1_charAt_3b067_6 : dec mJ1_charAt_3b067 6 = .ok (.aload_n 0, 1) := by decide +kernel
theorem dJ1_charAt_3b067_7 : dec mJ1_charAt_3b067 7 = .ok (.iload_n 1, 1) := by decide +kernel
theorem dJ1_charAt_3b067_8 : dec mJ1_charAt_3b067 8 = .ok (.baload, 1) := by decide +kernel
theorem dJ1_charAt_3b067_9 : dec mJ1_charAt_3b067 9 = .ok (.sipush 255, 3) := by decide +kernel
theorem dJ1_charAt_3b067_12 : dec mJ1_charAt_3b067 12 = .ok (.iand, 1) := by decide +kernel
theorem dJ1_charAt_3b067_13 : dec mJ1_charAt_3b067 13 = .ok (.i2c, 1) := by decide +kernel
theorem dJ1_charAt_3b067_14 : dec mJ1_charAt_3b067 14 = .ok (.ireturn, 1) := by decide +kernel
theorem dJ2_getChar_3b067_0 : dec mJ2_getChar_3b067 0 = .ok (.getstatic 44, 3) := by decide +kernel
theorem dJ2_getChar_3b067_3 : dec mJ2_getChar_3b067 3 = .ok (.ifCond .ne 25, 3) := by decide +kernel
theorem dJ2_getChar_3b067_6 : dec mJ2_getChar_3b067 6 = .ok (.iload_n 1, 1) := by decide +kernel
theorem dJ2_getChar_3b067_7 : dec mJ2_getChar_3b067 7 = .ok (.ifCond .lt 11, 3) := by decide +kernel
theorem dJ2_getChar_3b067_10 : dec mJ2_getChar_3b067 10 = .ok (.iload_n 1, 1) := by decide +kernel
theorem dJ2_getChar_3b067_11 : dec mJ2_getChar_3b067 11 = .ok (.aload_n 0, 1) := by decide +kernel
theorem dJ2_getChar_3b067_12 : dec mJ2_getChar_3b067 12 = .ok (.invokestatic 48, 3) := by decide +kernel
theorem dJ2_getChar_3b067_15 : dec mJ2_getChar_3b067 15 = .ok (.if_icmp .lt 13, 3) := by decide +kernel
theorem dJ2_getChar_3b067_18 : dec mJ2_getChar_3b067 18 = .ok (.new 52, 3) := by decide +kernel
theorem dJ2_getChar_3b067_21 : dec mJ2_getChar_3b067 21 = .ok (.dup, 1) := by decide +kernel
theorem dJ2_getChar_3b067_22 : dec mJ2_getChar_3b067 22 = .ok (.ldc 54, 2) := by decide +kernel
theorem dJ2_getChar_3b067_24 : dec mJ2_getChar_3b067 24 = .ok (.invokespecial 56, 3) := by decide +kernel
theorem dJ2_getChar_3b067_27 : dec mJ2_getChar_3b067 27 = .ok (.athrow, 1) := by decide +kernel
theorem dJ2_getChar_3b067_28 : dec mJ2_getChar_3b067 28 = .ok (.iload_n 1, 1) := by decide +kernel
theorem dJ2_getChar_3b067_29 : dec mJ2_getChar_3b067 29 = .ok (.iconst 1, 1) := by decide +kernel
theorem dJ2_getChar_3b067_30 : dec mJ2_getChar_3b067 30 = .ok (.ishl, 1) := by decide +kernel
theorem dJ2_getChar_3b067_31 : dec mJ2_getChar_3b067 31 = .ok (.istore_n 1, 1) := by decide +kernel
theorem dJ2_getChar_3b067_32 : dec mJ2_getChar_3b067 32 = .ok (.aload_n 0, 1) := by decide +kernel
theorem dJ2_getChar_3b067_33 : dec mJ2_getChar_3b067 33 = .ok (.iload_n 1, 1) := by decide +kernel
theorem dJ2_getChar_3b067_34 : dec mJ2_getChar_3b067 34 = .ok (.iinc 1 1, 3) := by decide +kernel
theorem dJ2_getChar_3b067_37 : dec mJ2_getChar_3b067 37 = .ok (.baload, 1) := by decide +kernel
theorem dJ2_getChar_3b067_38 : dec mJ2_getChar_3b067 38 = .ok (.sipush 255, 3) := by decide +kernel
theorem dJ2_getChar_3b067_41 : dec mJ2_getChar_3b067 41 = .ok (.iand, 1) := by decide +kernel
theorem dJ2_getChar_3b067_42 : dec mJ2_getChar_3b067 42 = .ok (.getstatic 59, 3) := by decide +kernel
theorem dJ2_getChar_3b067_45 : dec mJ2_getChar_3b067 45 = .ok (.ishl, 1) := by decide +kernel
theorem dJ2_getChar_3b067_46 : dec mJ2_getChar_3b067 46 = .ok (.aload_n 0, 1) := by decide +kernel
theorem dJ2_getChar_3b067_47 : dec mJ2_getChar_3b067 47 = .ok (.iload_n 1, 1) := by decide +kernel
theorem dJ2_getChar_3b067_48 : dec mJ2_getChar_3b067 48 = .ok (.baload, 1) := by decide +kernel
theorem dJ2_getChar_3b067_49 : dec mJ2_getChar_3b067 49 = .ok (.sipush 255, 3) := by decide +kernel
theorem dJ2_getChar_3b067_52 : dec mJ2_getChar_3b067 52 = .ok (.iand, 1) := by decide +kernel
theorem dJ2_getChar_3b067_53 : dec mJ2_getChar_3b067 53 = .ok (.getstatic 63, 3) := by decide +kernel
theorem dJ2_getChar_3b067_56 : dec mJ2_getChar_3b067 56 = .ok (.ishl, 1) := by decide +kernel
theorem dJ2_getChar_3b067_57 : dec mJ2_getChar_3b067 57 = .ok (.ior, 1) := by decide +kernel
theorem dJ2_getChar_3b067_58 : dec mJ2_getChar_3b067 58 = .ok (.i2c, 1) := by decide +kernel
theorem dJ2_getChar_3b067_59 : dec mJ2_getChar_3b067 59 = .ok (.ireturn, 1) := by decide +kernel
theorem dJ2_length_9d52b_0 : dec mJ2_length_9d52b 0 = .ok (.aload_n 0, 1) := by decide +kernel
theorem dJ2_length_9d52b_1 : dec mJ2_length_9d52b 1 = .ok (.arraylength, 1) := by decide +kernel
theorem dJ2_length_9d52b_2 : dec mJ2_length_9d52b 2 = .ok (.iconst 1, 1) := by decide +kernel
theorem dJ2_length_9d52b_3 : dec mJ2_length_9d52b 3 = .ok (.ishr, 1) := by decide +kernel
theorem dJ2_length_9d52b_4 : dec mJ2_length_9d52b 4 = .ok (.ireturn, 1) := by decide +kernel
theorem dJ2_charAt_3b067_0 : dec mJ2_charAt_3b067 0 = .ok (.iload_n 1, 1) := by decide +kernel
theorem dJ2_charAt_3b067_1 : dec mJ2_charAt_3b067 1 = .ok (.aload_n 0, 1) := by decide +kernel
theorem dJ2_charAt_3b067_2 : dec mJ2_charAt_3b067 2 = .ok (.invokestatic 67, 3) := by decide +kernel
theorem dJ2_charAt_3b067_5 : dec mJ2_charAt_3b067 5 = .ok (.aload_n 0, 1) := by decide +kernel
theorem dJ2_charAt_3b067_6 : dec mJ2_charAt_3b067 6 = .ok (.iload_n 1, 1) := by decide +kernel
theorem dJ2_charAt_3b067_7 : dec mJ2_charAt_3b067 7 = .ok (.invokestatic 71, 3) := by decide +kernel
theorem dJ2_charAt_3b067_10 : dec mJ2_charAt_3b067 10 = .ok (.ireturn, 1) := by decide +kernel
theorem dJ2_checkIndex_2214a_0 : dec mJ2_checkIndex_2214a 0 = .ok (.iload_n 0, 1) := by decide +kernel
theorem dJ2_checkIndex_2214a_1 : dec mJ2_checkIndex_2214a 1 = .ok (.aload_n 1, 1) := by decide +kernel
theorem dJ2_checkIndex_2214a_2 : dec mJ2_checkIndex_2214a 2 = .ok (.invokestatic 48, 3) := by decide +kernel
theorem dJ2_checkIndex_2214a_5 : dec mJ2_checkIndex_2214a 5 = .ok (.invokestatic 414, 3) := by decide +kernel
theorem dJ2_checkIndex_2214a_8 : dec mJ2_checkIndex_2214a 8 = .ok (.return_, 1) := by decide +kernel
theorem dJ7_fill_53178_0 : dec mJ7_fill_53178 0 = .ok (.iconst 0, 1) := by decide +kernel
theorem dJ7_fill_53178_1 : dec mJ7_fill_53178 1 = .ok (.istore_n 2, 1) := by decide +kernel
theorem dJ7_fill_53178_2 : dec mJ7_fill_53178 2 = .ok (.aload_n 0, 1) := by decide +kernel
theorem dJ7_fill_53178_3 : dec mJ7_fill_53178 3 = .ok (.arraylength, 1) := by decide +kernel
theorem dJ7_fill_53178_4 : dec mJ7_fill_53178 4 = .ok (.istore_n 3, 1) := by decide +kernel
theorem dJ7_fill_53178_5 : dec mJ7_fill_53178 5 = .ok (.iload_n 2, 1) := by decide +kernel
theorem dJ7_fill_53178_6 : dec mJ7_fill_53178 6 = .ok (.iload_n 3, 1) := by decide +kernel
theorem dJ7_fill_53178_7 : dec mJ7_fill_53178 7 = .ok (.if_icmp .ge 13, 3) := by decide +kernel
theorem dJ7_fill_53178_10 : dec mJ7_fill_53178 10 = .ok (.aload_n 0, 1) := by decide +kernel
theorem dJ7_fill_53178_11 : dec mJ7_fill_53178 11 = .ok (.iload_n 2, 1) := by decide +kernel
theorem dJ7_fill_53178_12 : dec mJ7_fill_53178 12 = .ok (.iload_n 1, 1) := by decide +kernel
theorem dJ7_fill_53178_13 : dec mJ7_fill_53178 13 = .ok (.iastore, 1) := by decide +kernel
theorem dJ7_fill_53178_14 : dec mJ7_fill_53178 14 = .ok (.iinc 2 1, 3) := by decide +kernel
theorem dJ7_fill_53178_17 : dec mJ7_fill_53178 17 = .ok (.goto (-12), 3) := by decide +kernel
theorem dJ7_fill_53178_20 : dec mJ7_fill_53178 20 = .ok (.return_, 1) := by decide +kernel
theorem dJ3_checkIndex_8e157_0 : dec mJ3_checkIndex_8e157 0 = .ok (.iload_n 0, 1) := by decide +kernel
theorem dJ3_checkIndex_8e157_1 : dec mJ3_checkIndex_8e157 1 = .ok (.ifCond .lt 8, 3) := by decide +kernel
theorem dJ3_checkIndex_8e157_4 : dec mJ3_checkIndex_8e157 4 = .ok (.iload_n 0, 1) := by decide +kernel
theorem dJ3_checkIndex_8e157_5 : dec mJ3_checkIndex_8e157 5 = .ok (.iload_n 1, 1) := by decide +kernel
theorem dJ3_checkIndex_8e157_6 : dec mJ3_checkIndex_8e157 6 = .ok (.if_icmp .lt 10, 3) := by decide +kernel
theorem dJ3_checkIndex_8e157_9 : dec mJ3_checkIndex_8e157 9 = .ok (.aload_n 2, 1) := by decide +kernel
theorem dJ3_checkIndex_8e157_10 : dec mJ3_checkIndex_8e157 10 = .ok (.iload_n 0, 1) := by decide +kernel
theorem dJ3_checkIndex_8e157_11 : dec mJ3_checkIndex_8e157 11 = .ok (.iload_n 1, 1) := by decide +kernel
theorem dJ3_checkIndex_8e157_12 : dec mJ3_checkIndex_8e157 12 = .ok (.invokestatic 95, 3) := by decide +kernel
theorem dJ3_checkIndex_8e157_15 : dec mJ3_checkIndex_8e157 15 = .ok (.athrow, 1) := by decide +kernel
theorem dJ3_checkIndex_8e157_16 : dec mJ3_checkIndex_8e157 16 = .ok (.iload_n 0, 1) := by decide +kernel
theorem dJ3_checkIndex_8e157_17 : dec mJ3_checkIndex_8e157 17 = .ok (.ireturn, 1) := by decide +kernel
theorem dL_append_0 : dec mL_append 0 = .ok (.aload_n 2, 1) := by decide +kernel
theorem dL_append_1 : dec mL_append 1 = .ok (.iconst 0, 1) := by decide +kernel
theorem dL_append_2 : dec mL_append 2 = .ok (.aload_n 0, 1) := by decide +kernel
theorem dL_append_3 : dec mL_append 3 = .ok (.iload_n 1, 1) := by decide +kernel
theorem dL_append_4 : dec mL_append 4 = .ok (.invokevirtual 7, 3) := by decide +kernel
theorem dL_append_7 : dec mL_append 7 = .ok (.i2l, 1) := by decide +kernel
theorem dL_append_8 : dec mL_append 8 = .ok (.lastore, 1) := by decide +kernel
theorem dL_append_9 : dec mL_append 9 = .ok (.goto 9, 3) := by decide +kernel
theorem dL_append_12 : dec mL_append 12 = .ok (.astore_n 3, 1) := by decide +kernel
theorem dL_append_13 : dec mL_append 13 = .ok (.iconst 1, 1) := by decide +kernel
theorem dL_append_14 : dec mL_append 14 = .ok (.ireturn, 1) := by decide +kernel
theorem dL_append_15 : dec mL_append 15 = .ok (.astore_n 3, 1) := by decide +kernel
theorem dL_append_16 : dec mL_append 16 = .ok (.iconst 2, 1) := by decide +kernel
theorem dL_append_17 : dec mL_append 17 = .ok (.ireturn, 1) := by decide +kernel
theorem dL_append_18 : dec mL_append 18 = .ok (.iconst 0, 1) := by decide +kernel
theorem dL_append_19 : dec mL_append 19 = .ok (.ireturn, 1) := by decide +kernel
theorem dL_load_0 : dec mL_load 0 = .ok (.aload_n 1, 1) := by decide +kernel
theorem dL_load_1 : dec mL_load 1 = .ok (.iconst 0, 1) := by decide +kernel
theorem dL_load_2 : dec mL_load 2 = .ok (.aload_n 0, 1) := by decide +kernel
theorem dL_load_3 : dec mL_load 3 = .ok (.invokevirtual 17, 3) := by decide +kernel
theorem dL_load_6 : dec mL_load 6 = .ok (.i2l, 1) := by decide +kernel
theorem dL_load_7 : dec mL_load 7 = .ok (.lastore, 1) := by decide +kernel
theorem dL_load_8 : dec mL_load 8 = .ok (.goto 6, 3) := by decide +kernel
theorem dL_load_11 : dec mL_load 11 = .ok (.astore_n 2, 1) := by decide +kernel
theorem dL_load_12 : dec mL_load 12 = .ok (.iconst 1, 1) := by decide +kernel
theorem dL_load_13 : dec mL_load 13 = .ok (.ireturn, 1) := by decide +kernel
theorem dL_load_14 : dec mL_load 14 = .ok (.iconst 0, 1) := by decide +kernel
theorem dL_load_15 : dec mL_load 15 = .ok (.ireturn, 1) := by decide +kernel
theorem dL_about_0 : dec mL_about 0 = .ok (.aload_n 2, 1) := by decide +kernel
theorem dL_about_1 : dec mL_about 1 = .ok (.iconst 0, 1) := by decide +kernel
theorem dL_about_2 : dec mL_about 2 = .ok (.aload_n 0, 1) := by decide +kernel
theorem dL_about_3 : dec mL_about 3 = .ok (.iload_n 1, 1) := by decide +kernel
theorem dL_about_4 : dec mL_about 4 = .ok (.invokevirtual 21, 3) := by decide +kernel
theorem dL_about_7 : dec mL_about 7 = .ok (.i2l, 1) := by decide +kernel
theorem dL_about_8 : dec mL_about 8 = .ok (.lastore, 1) := by decide +kernel
theorem dL_about_9 : dec mL_about 9 = .ok (.goto 6, 3) := by decide +kernel
theorem dL_about_12 : dec mL_about 12 = .ok (.astore_n 3, 1) := by decide +kernel
theorem dL_about_13 : dec mL_about 13 = .ok (.iconst 1, 1) := by decide +kernel
theorem dL_about_14 : dec mL_about 14 = .ok (.ireturn, 1) := by decide +kernel
theorem dL_about_15 : dec mL_about 15 = .ok (.iconst 0, 1) := by decide +kernel
theorem dL_about_16 : dec mL_about 16 = .ok (.ireturn, 1) := by decide +kernel
theorem dL_square_0 : dec mL_square 0 = .ok (.aload 4, 2) := by decide +kernel
theorem dL_square_2 : dec mL_square 2 = .ok (.iconst 0, 1) := by decide +kernel
theorem dL_square_3 : dec mL_square 3 = .ok (.aload_n 0, 1) := by decide +kernel
theorem dL_square_4 : dec mL_square 4 = .ok (.iload_n 1, 1) := by decide +kernel
theorem dL_square_5 : dec mL_square 5 = .ok (.iload_n 2, 1) := by decide +kernel
theorem dL_square_6 : dec mL_square 6 = .ok (.iload_n 3, 1) := by decide +kernel
theorem dL_square_7 : dec mL_square 7 = .ok (.invokevirtual 24, 3) := by decide +kernel
theorem dL_square_10 : dec mL_square 10 = .ok (.i2l, 1) := by decide +kernel
theorem dL_square_11 : dec mL_square 11 = .ok (.lastore, 1) := by decide +kernel
theorem dL_square_12 : dec mL_square 12 = .ok (.goto 11, 3) := by decide +kernel
theorem dL_square_15 : dec mL_square 15 = .ok (.astore 5, 2) := by decide +kernel
theorem dL_square_17 : dec mL_square 17 = .ok (.iconst 1, 1) := by decide +kernel
theorem dL_square_18 : dec mL_square 18 = .ok (.ireturn, 1) := by decide +kernel
theorem dL_square_19 : dec mL_square 19 = .ok (.astore 5, 2) := by decide +kernel
theorem dL_square_21 : dec mL_square 21 = .ok (.iconst 2, 1) := by decide +kernel
theorem dL_square_22 : dec mL_square 22 = .ok (.ireturn, 1) := by decide +kernel
theorem dL_square_23 : dec mL_square 23 = .ok (.iconst 0, 1) := by decide +kernel
theorem dL_square_24 : dec mL_square 24 = .ok (.ireturn, 1) := by decide +kernel
theorem dL_place_0 : dec mL_place 0 = .ok (.aload_n 3, 1) := by decide +kernel
theorem dL_place_1 : dec mL_place 1 = .ok (.iconst 0, 1) := by decide +kernel
theorem dL_place_2 : dec mL_place 2 = .ok (.aload_n 0, 1) := by decide +kernel
theorem dL_place_3 : dec mL_place 3 = .ok (.iload_n 1, 1) := by decide +kernel
theorem dL_place_4 : dec mL_place 4 = .ok (.iload_n 2, 1) := by decide +kernel
theorem dL_place_5 : dec mL_place 5 = .ok (.invokevirtual 30, 3) := by decide +kernel
theorem dL_place_8 : dec mL_place 8 = .ok (.i2l, 1) := by decide +kernel
theorem dL_place_9 : dec mL_place 9 = .ok (.lastore, 1) := by decide +kernel
theorem dL_place_10 : dec mL_place 10 = .ok (.goto 11, 3) := by decide +kernel
theorem dL_place_13 : dec mL_place 13 = .ok (.astore 4, 2) := by decide +kernel
theorem dL_place_15 : dec mL_place 15 = .ok (.iconst 1, 1) := by decide +kernel
theorem dL_place_16 : dec mL_place 16 = .ok (.ireturn, 1) := by decide +kernel
theorem dL_place_17 : dec mL_place 17 = .ok (.astore 4, 2) := by decide +kernel
theorem dL_place_19 : dec mL_place 19 = .ok (.iconst 2, 1) := by decide +kernel
theorem dL_place_20 : dec mL_place 20 = .ok (.ireturn, 1) := by decide +kernel
theorem dL_place_21 : dec mL_place 21 = .ok (.iconst 0, 1) := by decide +kernel
theorem dL_place_22 : dec mL_place 22 = .ok (.ireturn, 1) := by decide +kernel
theorem dL_tile_0 : dec mL_tile 0 = .ok (.aload_n 3, 1) := by decide +kernel
theorem dL_tile_1 : dec mL_tile 1 = .ok (.iconst 0, 1) := by decide +kernel
theorem dL_tile_2 : dec mL_tile 2 = .ok (.aload_n 0, 1) := by decide +kernel
theorem dL_tile_3 : dec mL_tile 3 = .ok (.iload_n 1, 1) := by decide +kernel
theorem dL_tile_4 : dec mL_tile 4 = .ok (.iload_n 2, 1) := by decide +kernel
theorem dL_tile_5 : dec mL_tile 5 = .ok (.invokevirtual 34, 3) := by decide +kernel
theorem dL_tile_8 : dec mL_tile 8 = .ok (.i2l, 1) := by decide +kernel
theorem dL_tile_9 : dec mL_tile 9 = .ok (.lastore, 1) := by decide +kernel
theorem dL_tile_10 : dec mL_tile 10 = .ok (.goto 11, 3) := by decide +kernel
theorem dL_tile_13 : dec mL_tile 13 = .ok (.astore 4, 2) := by decide +kernel
theorem dL_tile_15 : dec mL_tile 15 = .ok (.iconst 1, 1) := by decide +kernel
theorem dL_tile_16 : dec mL_tile 16 = .ok (.ireturn, 1) := by decide +kernel
theorem dL_tile_17 : dec mL_tile 17 = .ok (.astore 4, 2) := by decide +kernel
theorem dL_tile_19 : dec mL_tile 19 = .ok (.iconst 2, 1) := by decide +kernel
theorem dL_tile_20 : dec mL_tile 20 = .ok (.ireturn, 1) := by decide +kernel
theorem dL_tile_21 : dec mL_tile 21 = .ok (.iconst 0, 1) := by decide +kernel
theorem dL_tile_22 : dec mL_tile 22 = .ok (.ireturn, 1) := by decide +kernel
theorem dL_begin_0 : dec mL_begin 0 = .ok (.aload_n 3, 1) := by decide +kernel
theorem dL_begin_1 : dec mL_begin 1 = .ok (.iconst 0, 1) := by decide +kernel
theorem dL_begin_2 : dec mL_begin 2 = .ok (.aload_n 0, 1) := by decide +kernel
theorem dL_begin_3 : dec mL_begin 3 = .ok (.iload_n 1, 1) := by decide +kernel
theorem dL_begin_4 : dec mL_begin 4 = .ok (.iload_n 2, 1) := by decide +kernel
theorem dL_begin_5 : dec mL_begin 5 = .ok (.invokevirtual 37, 3) := by decide +kernel
theorem dL_begin_8 : dec mL_begin 8 = .ok (.i2l, 1) := by decide +kernel
theorem dL_begin_9 : dec mL_begin 9 = .ok (.lastore, 1) := by decide +kernel
theorem dL_begin_10 : dec mL_begin 10 = .ok (.goto 7, 3) := by decide +kernel
theorem dL_begin_13 : dec mL_begin 13 = .ok (.astore 4, 2) := by decide +kernel
theorem dL_begin_15 : dec mL_begin 15 = .ok (.iconst 1, 1) := by decide +kernel
theorem dL_begin_16 : dec mL_begin 16 = .ok (.ireturn, 1) := by decide +kernel
theorem dL_begin_17 : dec mL_begin 17 = .ok (.iconst 0, 1) := by decide +kernel
theorem dL_begin_18 : dec mL_begin 18 = .ok (.ireturn, 1) := by decide +kernel
theorem dL_grey_0 : dec mL_grey 0 = .ok (.aload 4, 2) := by decide +kernel
theorem dL_grey_2 : dec mL_grey 2 = .ok (.iconst 0, 1) := by decide +kernel
theorem dL_grey_3 : dec mL_grey 3 = .ok (.aload_n 0, 1) := by decide +kernel
theorem dL_grey_4 : dec mL_grey 4 = .ok (.iload_n 1, 1) := by decide +kernel
theorem dL_grey_5 : dec mL_grey 5 = .ok (.iload_n 2, 1) := by decide +kernel
theorem dL_grey_6 : dec mL_grey 6 = .ok (.iload_n 3, 1) := by decide +kernel
theorem dL_grey_7 : dec mL_grey 7 = .ok (.invokevirtual 40, 3) := by decide +kernel
theorem dL_grey_10 : dec mL_grey 10 = .ok (.i2l, 1) := by decide +kernel
theorem dL_grey_11 : dec mL_grey 11 = .ok (.lastore, 1) := by decide +kernel
theorem dL_grey_12 : dec mL_grey 12 = .ok (.goto 11, 3) := by decide +kernel
theorem dL_grey_15 : dec mL_grey 15 = .ok (.astore 5, 2) := by decide +kernel
theorem dL_grey_17 : dec mL_grey 17 = .ok (.iconst 1, 1) := by decide +kernel
theorem dL_grey_18 : dec mL_grey 18 = .ok (.ireturn, 1) := by decide +kernel
theorem dL_grey_19 : dec mL_grey 19 = .ok (.astore 5, 2) := by decide +kernel
theorem dL_grey_21 : dec mL_grey 21 = .ok (.iconst 2, 1) := by decide +kernel
theorem dL_grey_22 : dec mL_grey 22 = .ok (.ireturn, 1) := by decide +kernel
theorem dL_grey_23 : dec mL_grey 23 = .ok (.iconst 0, 1) := by decide +kernel
theorem dL_grey_24 : dec mL_grey 24 = .ok (.ireturn, 1) := by decide +kernel
theorem dL_fade_0 : dec mL_fade 0 = .ok (.aload_n 3, 1) := by decide +kernel
theorem dL_fade_1 : dec mL_fade 1 = .ok (.iconst 0, 1) := by decide +kernel
theorem dL_fade_2 : dec mL_fade 2 = .ok (.aload_n 0, 1) := by decide +kernel
theorem dL_fade_3 : dec mL_fade 3 = .ok (.iload_n 1, 1) := by decide +kernel
theorem dL_fade_4 : dec mL_fade 4 = .ok (.iload_n 2, 1) := by decide +kernel
theorem dL_fade_5 : dec mL_fade 5 = .ok (.invokevirtual 43, 3) := by decide +kernel
theorem dL_fade_8 : dec mL_fade 8 = .ok (.i2l, 1) := by decide +kernel
theorem dL_fade_9 : dec mL_fade 9 = .ok (.lastore, 1) := by decide +kernel
theorem dL_fade_10 : dec mL_fade 10 = .ok (.goto 7, 3) := by decide +kernel
theorem dL_fade_13 : dec mL_fade 13 = .ok (.astore 4, 2) := by decide +kernel
theorem dL_fade_15 : dec mL_fade 15 = .ok (.iconst 1, 1) := by decide +kernel
theorem dL_fade_16 : dec mL_fade 16 = .ok (.ireturn, 1) := by decide +kernel
theorem dL_fade_17 : dec mL_fade 17 = .ok (.iconst 0, 1) := by decide +kernel
theorem dL_fade_18 : dec mL_fade 18 = .ok (.ireturn, 1) := by decide +kernel
theorem dL_turn_0 : dec mL_turn 0 = .ok (.aload_n 2, 1) := by decide +kernel
theorem dL_turn_1 : dec mL_turn 1 = .ok (.iconst 0, 1) := by decide +kernel
theorem dL_turn_2 : dec mL_turn 2 = .ok (.aload_n 0, 1) := by decide +kernel
theorem dL_turn_3 : dec mL_turn 3 = .ok (.iload_n 1, 1) := by decide +kernel
theorem dL_turn_4 : dec mL_turn 4 = .ok (.invokevirtual 46, 3) := by decide +kernel
theorem dL_turn_7 : dec mL_turn 7 = .ok (.i2l, 1) := by decide +kernel
theorem dL_turn_8 : dec mL_turn 8 = .ok (.lastore, 1) := by decide +kernel
theorem dL_turn_9 : dec mL_turn 9 = .ok (.goto 9, 3) := by decide +kernel
theorem dL_turn_12 : dec mL_turn 12 = .ok (.astore_n 3, 1) := by decide +kernel
theorem dL_turn_13 : dec mL_turn 13 = .ok (.iconst 1, 1) := by decide +kernel
theorem dL_turn_14 : dec mL_turn 14 = .ok (.ireturn, 1) := by decide +kernel
theorem dL_turn_15 : dec mL_turn 15 = .ok (.astore_n 3, 1) := by decide +kernel
theorem dL_turn_16 : dec mL_turn 16 = .ok (.iconst 2, 1) := by decide +kernel
theorem dL_turn_17 : dec mL_turn 17 = .ok (.ireturn, 1) := by decide +kernel
theorem dL_turn_18 : dec mL_turn 18 = .ok (.iconst 0, 1) := by decide +kernel
theorem dL_turn_19 : dec mL_turn 19 = .ok (.ireturn, 1) := by decide +kernel
theorem dL_swap_0 : dec mL_swap 0 = .ok (.aload_n 3, 1) := by decide +kernel
theorem dL_swap_1 : dec mL_swap 1 = .ok (.iconst 0, 1) := by decide +kernel
theorem dL_swap_2 : dec mL_swap 2 = .ok (.aload_n 0, 1) := by decide +kernel
theorem dL_swap_3 : dec mL_swap 3 = .ok (.iload_n 1, 1) := by decide +kernel
theorem dL_swap_4 : dec mL_swap 4 = .ok (.iload_n 2, 1) := by decide +kernel
theorem dL_swap_5 : dec mL_swap 5 = .ok (.invokevirtual 49, 3) := by decide +kernel
theorem dL_swap_8 : dec mL_swap 8 = .ok (.i2l, 1) := by decide +kernel
theorem dL_swap_9 : dec mL_swap 9 = .ok (.lastore, 1) := by decide +kernel
theorem dL_swap_10 : dec mL_swap 10 = .ok (.goto 15, 3) := by decide +kernel
theorem dL_swap_13 : dec mL_swap 13 = .ok (.astore 4, 2) := by decide +kernel
theorem dL_swap_15 : dec mL_swap 15 = .ok (.iconst 1, 1) := by decide +kernel
theorem dL_swap_16 : dec mL_swap 16 = .ok (.ireturn, 1) := by decide +kernel
theorem dL_swap_17 : dec mL_swap 17 = .ok (.astore 4, 2) := by decide +kernel
theorem dL_swap_19 : dec mL_swap 19 = .ok (.iconst 2, 1) := by decide +kernel
theorem dL_swap_20 : dec mL_swap 20 = .ok (.ireturn, 1) := by decide +kernel
theorem dL_swap_21 : dec mL_swap 21 = .ok (.astore 4, 2) := by decide +kernel
theorem dL_swap_23 : dec mL_swap 23 = .ok (.iconst 3, 1) := by decide +kernel
theorem dL_swap_24 : dec mL_swap 24 = .ok (.ireturn, 1) := by decide +kernel
theorem dL_swap_25 : dec mL_swap 25 = .ok (.iconst 0, 1) := by decide +kernel
theorem dL_swap_26 : dec mL_swap 26 = .ok (.ireturn, 1) := by decide +kernel
theorem dL_flip_0 : dec mL_flip 0 = .ok (.aload_n 3, 1) := by decide +kernel
theorem dL_flip_1 : dec mL_flip 1 = .ok (.iconst 0, 1) := by decide +kernel
theorem dL_flip_2 : dec mL_flip 2 = .ok (.aload_n 0, 1) := by decide +kernel
theorem dL_flip_3 : dec mL_flip 3 = .ok (.iload_n 1, 1) := by decide +kernel
theorem dL_flip_4 : dec mL_flip 4 = .ok (.iload_n 2, 1) := by decide +kernel
theorem dL_flip_5 : dec mL_flip 5 = .ok (.invokevirtual 52, 3) := by decide +kernel
theorem dL_flip_8 : dec mL_flip 8 = .ok (.i2l, 1) := by decide +kernel
theorem dL_flip_9 : dec mL_flip 9 = .ok (.lastore, 1) := by decide +kernel
theorem dL_flip_10 : dec mL_flip 10 = .ok (.goto 11, 3) := by decide +kernel
theorem dL_flip_13 : dec mL_flip 13 = .ok (.astore 4, 2) := by decide +kernel
theorem dL_flip_15 : dec mL_flip 15 = .ok (.iconst 1, 1) := by decide +kernel
theorem dL_flip_16 : dec mL_flip 16 = .ok (.ireturn, 1) := by decide +kernel
theorem dL_flip_17 : dec mL_flip 17 = .ok (.astore 4, 2) := by decide +kernel
theorem dL_flip_19 : dec mL_flip 19 = .ok (.iconst 2, 1) := by decide +kernel
theorem dL_flip_20 : dec mL_flip 20 = .ok (.ireturn, 1) := by decide +kernel
theorem dL_flip_21 : dec mL_flip 21 = .ok (.iconst 0, 1) := by decide +kernel
theorem dL_flip_22 : dec mL_flip 22 = .ok (.ireturn, 1) := by decide +kernel
theorem dL_hold_0 : dec mL_hold 0 = .ok (.aload_n 3, 1) := by decide +kernel
theorem dL_hold_1 : dec mL_hold 1 = .ok (.iconst 0, 1) := by decide +kernel
theorem dL_hold_2 : dec mL_hold 2 = .ok (.aload_n 0, 1) := by decide +kernel
theorem dL_hold_3 : dec mL_hold 3 = .ok (.iload_n 1, 1) := by decide +kernel
theorem dL_hold_4 : dec mL_hold 4 = .ok (.iload_n 2, 1) := by decide +kernel
theorem dL_hold_5 : dec mL_hold 5 = .ok (.invokevirtual 55, 3) := by decide +kernel
theorem dL_hold_8 : dec mL_hold 8 = .ok (.i2l, 1) := by decide +kernel
theorem dL_hold_9 : dec mL_hold 9 = .ok (.lastore, 1) := by decide +kernel
theorem dL_hold_10 : dec mL_hold 10 = .ok (.goto 7, 3) := by decide +kernel
theorem dL_hold_13 : dec mL_hold 13 = .ok (.astore 4, 2) := by decide +kernel
theorem dL_hold_15 : dec mL_hold 15 = .ok (.iconst 1, 1) := by decide +kernel
theorem dL_hold_16 : dec mL_hold 16 = .ok (.ireturn, 1) := by decide +kernel
theorem dL_hold_17 : dec mL_hold 17 = .ok (.iconst 0, 1) := by decide +kernel
theorem dL_hold_18 : dec mL_hold 18 = .ok (.ireturn, 1) := by decide +kernel
theorem dL_improve_0 : dec mL_improve 0 = .ok (.aload_n 2, 1) := by decide +kernel
theorem dL_improve_1 : dec mL_improve 1 = .ok (.iconst 0, 1) := by decide +kernel
theorem dL_improve_2 : dec mL_improve 2 = .ok (.aload_n 0, 1) := by decide +kernel
theorem dL_improve_3 : dec mL_improve 3 = .ok (.iload_n 1, 1) := by decide +kernel
theorem dL_improve_4 : dec mL_improve 4 = .ok (.invokevirtual 59, 3) := by decide +kernel
theorem dL_improve_7 : dec mL_improve 7 = .ok (.i2l, 1) := by decide +kernel
theorem dL_improve_8 : dec mL_improve 8 = .ok (.lastore, 1) := by decide +kernel
theorem dL_improve_9 : dec mL_improve 9 = .ok (.goto 6, 3) := by decide +kernel
theorem dL_improve_12 : dec mL_improve 12 = .ok (.astore_n 3, 1) := by decide +kernel
theorem dL_improve_13 : dec mL_improve 13 = .ok (.iconst 1, 1) := by decide +kernel
theorem dL_improve_14 : dec mL_improve 14 = .ok (.ireturn, 1) := by decide +kernel
theorem dL_improve_15 : dec mL_improve 15 = .ok (.iconst 0, 1) := by decide +kernel
theorem dL_improve_16 : dec mL_improve 16 = .ok (.ireturn, 1) := by decide +kernel
theorem dL_undo_0 : dec mL_undo 0 = .ok (.aload_n 1, 1) := by decide +kernel
theorem dL_undo_1 : dec mL_undo 1 = .ok (.iconst 0, 1) := by decide +kernel
theorem dL_undo_2 : dec mL_undo 2 = .ok (.aload_n 0, 1) := by decide +kernel
theorem dL_undo_3 : dec mL_undo 3 = .ok (.invokevirtual 62, 3) := by decide +kernel
theorem dL_undo_6 : dec mL_undo 6 = .ok (.i2l, 1) := by decide +kernel
theorem dL_undo_7 : dec mL_undo 7 = .ok (.lastore, 1) := by decide +kernel
theorem dL_undo_8 : dec mL_undo 8 = .ok (.goto 6, 3) := by decide +kernel
theorem dL_undo_11 : dec mL_undo 11 = .ok (.astore_n 2, 1) := by decide +kernel
theorem dL_undo_12 : dec mL_undo 12 = .ok (.iconst 1, 1) := by decide +kernel
theorem dL_undo_13 : dec mL_undo 13 = .ok (.ireturn, 1) := by decide +kernel
theorem dL_undo_14 : dec mL_undo 14 = .ok (.iconst 0, 1) := by decide +kernel
theorem dL_undo_15 : dec mL_undo 15 = .ok (.ireturn, 1) := by decide +kernel
theorem dL_gain_0 : dec mL_gain 0 = .ok (.aload_n 2, 1) := by decide +kernel
theorem dL_gain_1 : dec mL_gain 1 = .ok (.iconst 0, 1) := by decide +kernel
theorem dL_gain_2 : dec mL_gain 2 = .ok (.aload_n 0, 1) := by decide +kernel
theorem dL_gain_3 : dec mL_gain 3 = .ok (.iload_n 1, 1) := by decide +kernel
theorem dL_gain_4 : dec mL_gain 4 = .ok (.invokevirtual 65, 3) := by decide +kernel
theorem dL_gain_7 : dec mL_gain 7 = .ok (.i2l, 1) := by decide +kernel
theorem dL_gain_8 : dec mL_gain 8 = .ok (.lastore, 1) := by decide +kernel
theorem dL_gain_9 : dec mL_gain 9 = .ok (.goto 6, 3) := by decide +kernel
theorem dL_gain_12 : dec mL_gain 12 = .ok (.astore_n 3, 1) := by decide +kernel
theorem dL_gain_13 : dec mL_gain 13 = .ok (.iconst 1, 1) := by decide +kernel
theorem dL_gain_14 : dec mL_gain 14 = .ok (.ireturn, 1) := by decide +kernel
theorem dL_gain_15 : dec mL_gain 15 = .ok (.iconst 0, 1) := by decide +kernel
theorem dL_gain_16 : dec mL_gain 16 = .ok (.ireturn, 1) := by decide +kernel
theorem dL_best_0 : dec mL_best 0 = .ok (.aload_n 2, 1) := by decide +kernel
theorem dL_best_1 : dec mL_best 1 = .ok (.iconst 0, 1) := by decide +kernel
theorem dL_best_2 : dec mL_best 2 = .ok (.aload_n 0, 1) := by decide +kernel
theorem dL_best_3 : dec mL_best 3 = .ok (.iload_n 1, 1) := by decide +kernel
theorem dL_best_4 : dec mL_best 4 = .ok (.invokevirtual 68, 3) := by decide +kernel
theorem dL_best_7 : dec mL_best 7 = .ok (.i2l, 1) := by decide +kernel
theorem dL_best_8 : dec mL_best 8 = .ok (.lastore, 1) := by decide +kernel
theorem dL_best_9 : dec mL_best 9 = .ok (.goto 6, 3) := by decide +kernel
theorem dL_best_12 : dec mL_best 12 = .ok (.astore_n 3, 1) := by decide +kernel
theorem dL_best_13 : dec mL_best 13 = .ok (.iconst 1, 1) := by decide +kernel
theorem dL_best_14 : dec mL_best 14 = .ok (.ireturn, 1) := by decide +kernel
theorem dL_best_15 : dec mL_best 15 = .ok (.iconst 0, 1) := by decide +kernel
theorem dL_best_16 : dec mL_best 16 = .ok (.ireturn, 1) := by decide +kernel
theorem dL_ifImproved_0 : dec mL_ifImproved 0 = .ok (.aload_n 3, 1) := by decide +kernel
theorem dL_ifImproved_1 : dec mL_ifImproved 1 = .ok (.iconst 0, 1) := by decide +kernel
theorem dL_ifImproved_2 : dec mL_ifImproved 2 = .ok (.aload_n 0, 1) := by decide +kernel
theorem dL_ifImproved_3 : dec mL_ifImproved 3 = .ok (.iload_n 1, 1) := by decide +kernel
theorem dL_ifImproved_4 : dec mL_ifImproved 4 = .ok (.iload_n 2, 1) := by decide +kernel
theorem dL_ifImproved_5 : dec mL_ifImproved 5 = .ok (.invokevirtual 71, 3) := by decide +kernel
theorem dL_ifImproved_8 : dec mL_ifImproved 8 = .ok (.i2l, 1) := by decide +kernel
theorem dL_ifImproved_9 : dec mL_ifImproved 9 = .ok (.lastore, 1) := by decide +kernel
theorem dL_ifImproved_10 : dec mL_ifImproved 10 = .ok (.goto 7, 3) := by decide +kernel
theorem dL_ifImproved_13 : dec mL_ifImproved 13 = .ok (.astore 4, 2) := by decide +kernel
theorem dL_ifImproved_15 : dec mL_ifImproved 15 = .ok (.iconst 1, 1) := by decide +kernel
theorem dL_ifImproved_16 : dec mL_ifImproved 16 = .ok (.ireturn, 1) := by decide +kernel
theorem dL_ifImproved_17 : dec mL_ifImproved 17 = .ok (.iconst 0, 1) := by decide +kernel
theorem dL_ifImproved_18 : dec mL_ifImproved 18 = .ok (.ireturn, 1) := by decide +kernel
theorem dL_worst_0 : dec mL_worst 0 = .ok (.aload_n 2, 1) := by decide +kernel
theorem dL_worst_1 : dec mL_worst 1 = .ok (.iconst 0, 1) := by decide +kernel
theorem dL_worst_2 : dec mL_worst 2 = .ok (.aload_n 0, 1) := by decide +kernel
theorem dL_worst_3 : dec mL_worst 3 = .ok (.iload_n 1, 1) := by decide +kernel
theorem dL_worst_4 : dec mL_worst 4 = .ok (.invokevirtual 74, 3) := by decide +kernel
theorem dL_worst_7 : dec mL_worst 7 = .ok (.i2l, 1) := by decide +kernel
theorem dL_worst_8 : dec mL_worst 8 = .ok (.lastore, 1) := by decide +kernel
theorem dL_worst_9 : dec mL_worst 9 = .ok (.goto 6, 3) := by decide +kernel
theorem dL_worst_12 : dec mL_worst 12 = .ok (.astore_n 3, 1) := by decide +kernel
theorem dL_worst_13 : dec mL_worst 13 = .ok (.iconst 1, 1) := by decide +kernel
theorem dL_worst_14 : dec mL_worst 14 = .ok (.ireturn, 1) := by decide +kernel
theorem dL_worst_15 : dec mL_worst 15 = .ok (.iconst 0, 1) := by decide +kernel
theorem dL_worst_16 : dec mL_worst 16 = .ok (.ireturn, 1) := by decide +kernel
theorem dL_fits_0 : dec mL_fits 0 = .ok (.aload_n 2, 1) := by decide +kernel
theorem dL_fits_1 : dec mL_fits 1 = .ok (.iconst 0, 1) := by decide +kernel
theorem dL_fits_2 : dec mL_fits 2 = .ok (.aload_n 0, 1) := by decide +kernel
theorem dL_fits_3 : dec mL_fits 3 = .ok (.iload_n 1, 1) := by decide +kernel
theorem dL_fits_4 : dec mL_fits 4 = .ok (.invokevirtual 77, 3) := by decide +kernel
theorem dL_fits_7 : dec mL_fits 7 = .ok (.i2l, 1) := by decide +kernel
theorem dL_fits_8 : dec mL_fits 8 = .ok (.lastore, 1) := by decide +kernel
theorem dL_fits_9 : dec mL_fits 9 = .ok (.goto 6, 3) := by decide +kernel
theorem dL_fits_12 : dec mL_fits 12 = .ok (.astore_n 3, 1) := by decide +kernel
theorem dL_fits_13 : dec mL_fits 13 = .ok (.iconst 1, 1) := by decide +kernel
theorem dL_fits_14 : dec mL_fits 14 = .ok (.ireturn, 1) := by decide +kernel
theorem dL_fits_15 : dec mL_fits 15 = .ok (.iconst 0, 1) := by decide +kernel
theorem dL_fits_16 : dec mL_fits 16 = .ok (.ireturn, 1) := by decide +kernel
theorem dL_runScript_0 : dec mL_runScript 0 = .ok (.aload 4, 2) := by decide +kernel
theorem dL_runScript_2 : dec mL_runScript 2 = .ok (.iconst 0, 1) := by decide +kernel
theorem dL_runScript_3 : dec mL_runScript 3 = .ok (.aload_n 0, 1) := by decide +kernel
theorem dL_runScript_4 : dec mL_runScript 4 = .ok (.iload_n 1, 1) := by decide +kernel
theorem dL_runScript_5 : dec mL_runScript 5 = .ok (.lload_n 2, 1) := by decide +kernel
theorem dL_runScript_6 : dec mL_runScript 6 = .ok (.invokevirtual 80, 3) := by decide +kernel
theorem dL_runScript_9 : dec mL_runScript 9 = .ok (.i2l, 1) := by decide +kernel
theorem dL_runScript_10 : dec mL_runScript 10 = .ok (.lastore, 1) := by decide +kernel
theorem dL_runScript_11 : dec mL_runScript 11 = .ok (.goto 7, 3) := by decide +kernel
theorem dL_runScript_14 : dec mL_runScript 14 = .ok (.astore 5, 2) := by decide +kernel
theorem dL_runScript_16 : dec mL_runScript 16 = .ok (.iconst 1, 1) := by decide +kernel
theorem dL_runScript_17 : dec mL_runScript 17 = .ok (.ireturn, 1) := by decide +kernel
theorem dL_runScript_18 : dec mL_runScript 18 = .ok (.iconst 0, 1) := by decide +kernel
theorem dL_runScript_19 : dec mL_runScript 19 = .ok (.ireturn, 1) := by decide +kernel
theorem dL_simulate_0 : dec mL_simulate 0 = .ok (.aload 4, 2) := by decide +kernel
theorem dL_simulate_2 : dec mL_simulate 2 = .ok (.iconst 0, 1) := by decide +kernel
theorem dL_simulate_3 : dec mL_simulate 3 = .ok (.aload_n 0, 1) := by decide +kernel
theorem dL_simulate_4 : dec mL_simulate 4 = .ok (.lload_n 1, 1) := by decide +kernel
theorem dL_simulate_5 : dec mL_simulate 5 = .ok (.iload_n 3, 1) := by decide +kernel
theorem dL_simulate_6 : dec mL_simulate 6 = .ok (.invokevirtual 84, 3) := by decide +kernel
theorem dL_simulate_9 : dec mL_simulate 9 = .ok (.i2l, 1) := by decide +kernel
theorem dL_simulate_10 : dec mL_simulate 10 = .ok (.lastore, 1) := by decide +kernel
theorem dL_simulate_11 : dec mL_simulate 11 = .ok (.goto 7, 3) := by decide +kernel
theorem dL_simulate_14 : dec mL_simulate 14 = .ok (.astore 5, 2) := by decide +kernel
theorem dL_simulate_16 : dec mL_simulate 16 = .ok (.iconst 1, 1) := by decide +kernel
theorem dL_simulate_17 : dec mL_simulate 17 = .ok (.ireturn, 1) := by decide +kernel
theorem dL_simulate_18 : dec mL_simulate 18 = .ok (.iconst 0, 1) := by decide +kernel
theorem dL_simulate_19 : dec mL_simulate 19 = .ok (.ireturn, 1) := by decide +kernel
theorem dL_save_0 : dec mL_save 0 = .ok (.aload_n 2, 1) := by decide +kernel
theorem dL_save_1 : dec mL_save 1 = .ok (.iconst 0, 1) := by decide +kernel
theorem dL_save_2 : dec mL_save 2 = .ok (.aload_n 0, 1) := by decide +kernel
theorem dL_save_3 : dec mL_save 3 = .ok (.iload_n 1, 1) := by decide +kernel
theorem dL_save_4 : dec mL_save 4 = .ok (.invokevirtual 88, 3) := by decide +kernel
theorem dL_save_7 : dec mL_save 7 = .ok (.i2l, 1) := by decide +kernel
theorem dL_save_8 : dec mL_save 8 = .ok (.lastore, 1) := by decide +kernel
theorem dL_save_9 : dec mL_save 9 = .ok (.goto 6, 3) := by decide +kernel
theorem dL_save_12 : dec mL_save 12 = .ok (.astore_n 3, 1) := by decide +kernel
theorem dL_save_13 : dec mL_save 13 = .ok (.iconst 1, 1) := by decide +kernel
theorem dL_save_14 : dec mL_save 14 = .ok (.ireturn, 1) := by decide +kernel
theorem dL_save_15 : dec mL_save 15 = .ok (.iconst 0, 1) := by decide +kernel
theorem dL_save_16 : dec mL_save 16 = .ok (.ireturn, 1) := by decide +kernel
theorem dL_restore_0 : dec mL_restore 0 = .ok (.aload_n 2, 1) := by decide +kernel
theorem dL_restore_1 : dec mL_restore 1 = .ok (.iconst 0, 1) := by decide +kernel
theorem dL_restore_2 : dec mL_restore 2 = .ok (.aload_n 0, 1) := by decide +kernel
theorem dL_restore_3 : dec mL_restore 3 = .ok (.iload_n 1, 1) := by decide +kernel
theorem dL_restore_4 : dec mL_restore 4 = .ok (.invokevirtual 91, 3) := by decide +kernel
theorem dL_restore_7 : dec mL_restore 7 = .ok (.i2l, 1) := by decide +kernel
theorem dL_restore_8 : dec mL_restore 8 = .ok (.lastore, 1) := by decide +kernel
theorem dL_restore_9 : dec mL_restore 9 = .ok (.goto 9, 3) := by decide +kernel
theorem dL_restore_12 : dec mL_restore 12 = .ok (.astore_n 3, 1) := by decide +kernel
theorem dL_restore_13 : dec mL_restore 13 = .ok (.iconst 1, 1) := by decide +kernel
theorem dL_restore_14 : dec mL_restore 14 = .ok (.ireturn, 1) := by decide +kernel
theorem dL_restore_15 : dec mL_restore 15 = .ok (.astore_n 3, 1) := by decide +kernel
theorem dL_restore_16 : dec mL_restore 16 = .ok (.iconst 2, 1) := by decide +kernel
theorem dL_restore_17 : dec mL_restore 17 = .ok (.ireturn, 1) := by decide +kernel
theorem dL_restore_18 : dec mL_restore 18 = .ok (.iconst 0, 1) := by decide +kernel
theorem dL_restore_19 : dec mL_restore 19 = .ok (.ireturn, 1) := by decide +kernel
theorem dL_law_0 : dec mL_law 0 = .ok (.new 8, 3) := by decide +kernel
theorem dL_law_3 : dec mL_law 3 = .ok (.dup, 1) := by decide +kernel
theorem dL_law_4 : dec mL_law 4 = .ok (.invokespecial 94, 3) := by decide +kernel
theorem dL_law_7 : dec mL_law 7 = .ok (.astore_n 1, 1) := by decide +kernel
theorem dL_law_8 : dec mL_law 8 = .ok (.new 95, 3) := by decide +kernel
theorem dL_law_11 : dec mL_law 11 = .ok (.dup, 1) := by decide +kernel
theorem dL_law_12 : dec mL_law 12 = .ok (.invokespecial 97, 3) := by decide +kernel
theorem dL_law_15 : dec mL_law 15 = .ok (.astore_n 2, 1) := by decide +kernel
theorem dL_law_16 : dec mL_law 16 = .ok (.iconst 1, 1) := by decide +kernel
theorem dL_law_17 : dec mL_law 17 = .ok (.newarray .long, 2) := by decide +kernel
theorem dL_law_19 : dec mL_law 19 = .ok (.astore_n 3, 1) := by decide +kernel
theorem dL_law_20 : dec mL_law 20 = .ok (.iconst 0, 1) := by decide +kernel
theorem dL_law_21 : dec mL_law 21 = .ok (.istore 4, 2) := by decide +kernel
theorem dL_law_23 : dec mL_law 23 = .ok (.iload 4, 2) := by decide +kernel
theorem dL_law_25 : dec mL_law 25 = .ok (.aload_n 0, 1) := by decide +kernel
theorem dL_law_26 : dec mL_law 26 = .ok (.arraylength, 1) := by decide +kernel
theorem dL_law_27 : dec mL_law 27 = .ok (.iconst 4, 1) := by decide +kernel
theorem dL_law_28 : dec mL_law 28 = .ok (.isub, 1) := by decide +kernel
theorem dL_law_29 : dec mL_law 29 = .ok (.if_icmp .gt 1761, 3) := by decide +kernel
theorem dL_law_32 : dec mL_law 32 = .ok (.aload_n 0, 1) := by decide +kernel
theorem dL_law_33 : dec mL_law 33 = .ok (.iload 4, 2) := by decide +kernel
theorem dL_law_35 : dec mL_law 35 = .ok (.iaload, 1) := by decide +kernel
theorem dL_law_36 : dec mL_law 36 = .ok (.bipush 31, 2) := by decide +kernel
theorem dL_law_38 : dec mL_law 38 = .ok (.iand, 1) := by decide +kernel
theorem dL_law_39 : dec mL_law 39 = .ok (.tableswitch 1745 0 27 #[125, 181, 194, 207, 251, 307, 387, 455, 523, 591, 671, 739, 795, 863, 931, 1015, 1028, 1084, 1128, 1184, 1240, 1308, 1321, 1377, 1433, 1533, 1633, 1689], 125) := by decide +kernel
theorem dL_law_164 : dec mL_law 164 = .ok (.aload_n 1, 1) := by decide +kernel
theorem dL_law_165 : dec mL_law 165 = .ok (.aload_n 0, 1) := by decide +kernel
theorem dL_law_166 : dec mL_law 166 = .ok (.iload 4, 2) := by decide +kernel
theorem dL_law_168 : dec mL_law 168 = .ok (.iconst 1, 1) := by decide +kernel
theorem dL_law_169 : dec mL_law 169 = .ok (.iadd, 1) := by decide +kernel
theorem dL_law_170 : dec mL_law 170 = .ok (.iaload, 1) := by decide +kernel
theorem dL_law_171 : dec mL_law 171 = .ok (.aload_n 3, 1) := by decide +kernel
theorem dL_law_172 : dec mL_law 172 = .ok (.invokestatic 98, 3) := by decide +kernel
theorem dL_law_175 : dec mL_law 175 = .ok (.istore 5, 2) := by decide +kernel
theorem dL_law_177 : dec mL_law 177 = .ok (.aload_n 2, 1) := by decide +kernel
theorem dL_law_178 : dec mL_law 178 = .ok (.aload_n 0, 1) := by decide +kernel
theorem dL_law_179 : dec mL_law 179 = .ok (.iload 4, 2) := by decide +kernel
theorem dL_law_181 : dec mL_law 181 = .ok (.iconst 1, 1) := by decide +kernel
theorem dL_law_182 : dec mL_law 182 = .ok (.iadd, 1) := by decide +kernel
theorem dL_law_183 : dec mL_law 183 = .ok (.iaload, 1) := by decide +kernel
theorem dL_law_184 : dec mL_law 184 = .ok (.invokevirtual 103, 3) := by decide +kernel
theorem dL_law_187 : dec mL_law 187 = .ok (.istore 6, 2) := by decide +kernel
theorem dL_law_189 : dec mL_law 189 = .ok (.aload_n 2, 1) := by decide +kernel
theorem dL_law_190 : dec mL_law 190 = .ok (.invokevirtual 104, 3) := by decide +kernel
theorem dL_law_193 : dec mL_law 193 = .ok (.iload 5, 2) := by decide +kernel
theorem dL_law_195 : dec mL_law 195 = .ok (.if_icmp .eq 5, 3) := by decide +kernel
theorem dL_law_198 : dec mL_law 198 = .ok (.iconst 0, 1) := by decide +kernel
theorem dL_law_199 : dec mL_law 199 = .ok (.ireturn, 1) := by decide +kernel
theorem dL_law_200 : dec mL_law 200 = .ok (.iload 5, 2) := by decide +kernel
theorem dL_law_202 : dec mL_law 202 = .ok (.ifCond .ne 15, 3) := by decide +kernel
theorem dL_law_205 : dec mL_law 205 = .ok (.aload_n 3, 1) := by decide +kernel
theorem dL_law_206 : dec mL_law 206 = .ok (.iconst 0, 1) := by decide +kernel
theorem dL_law_207 : dec mL_law 207 = .ok (.laload, 1) := by decide +kernel
theorem dL_law_208 : dec mL_law 208 = .ok (.iload 6, 2) := by decide +kernel
theorem dL_law_210 : dec mL_law 210 = .ok (.i2l, 1) := by decide +kernel
theorem dL_law_211 : dec mL_law 211 = .ok (.lcmp, 1) := by decide +kernel
theorem dL_law_212 : dec mL_law 212 = .ok (.ifCond .eq 5, 3) := by decide +kernel
theorem dL_law_215 : dec mL_law 215 = .ok (.iconst 0, 1) := by decide +kernel
theorem dL_law_216 : dec mL_law 216 = .ok (.ireturn, 1) := by decide +kernel
theorem dL_law_217 : dec mL_law 217 = .ok (.goto 1567, 3) := by decide +kernel
theorem dL_law_220 : dec mL_law 220 = .ok (.aload_n 1, 1) := by decide +kernel
theorem dL_law_221 : dec mL_law 221 = .ok (.invokevirtual 107, 3) := by decide +kernel
theorem dL_law_224 : dec mL_law 224 = .ok (.aload_n 2, 1) := by decide +kernel
theorem dL_law_225 : dec mL_law 225 = .ok (.invokevirtual 110, 3) := by decide +kernel
theorem dL_law_228 : dec mL_law 228 = .ok (.if_icmp .eq 1556, 3) := by decide +kernel
theorem dL_law_231 : dec mL_law 231 = .ok (.iconst 0, 1) := by decide +kernel
theorem dL_law_232 : dec mL_law 232 = .ok (.ireturn, 1) := by decide +kernel
theorem dL_law_233 : dec mL_law 233 = .ok (.aload_n 1, 1) := by decide +kernel
theorem dL_law_234 : dec mL_law 234 = .ok (.invokevirtual 111, 3) := by decide +kernel
theorem dL_law_237 : dec mL_law 237 = .ok (.aload_n 2, 1) := by decide +kernel
theorem dL_law_238 : dec mL_law 238 = .ok (.invokevirtual 114, 3) := by decide +kernel
theorem dL_law_241 : dec mL_law 241 = .ok (.if_icmp .eq 1543, 3) := by decide +kernel
theorem dL_law_244 : dec mL_law 244 = .ok (.iconst 0, 1) := by decide +kernel
theorem dL_law_245 : dec mL_law 245 = .ok (.ireturn, 1) := by decide +kernel
theorem dL_law_246 : dec mL_law 246 = .ok (.aload_n 1, 1) := by decide +kernel
theorem dL_law_247 : dec mL_law 247 = .ok (.aload_n 3, 1) := by decide +kernel
theorem dL_law_248 : dec mL_law 248 = .ok (.invokestatic 115, 3) := by decide +kernel
theorem dL_law_251 : dec mL_law 251 = .ok (.istore 5, 2) := by decide +kernel
theorem dL_law_253 : dec mL_law 253 = .ok (.aload_n 2, 1) := by decide +kernel
theorem dL_law_254 : dec mL_law 254 = .ok (.invokevirtual 118, 3) := by decide +kernel
theorem dL_law_257 : dec mL_law 257 = .ok (.istore 6, 2) := by decide +kernel
theorem dL_law_259 : dec mL_law 259 = .ok (.aload_n 2, 1) := by decide +kernel
theorem dL_law_260 : dec mL_law 260 = .ok (.invokevirtual 104, 3) := by decide +kernel
theorem dL_law_263 : dec mL_law 263 = .ok (.iload 5, 2) := by decide +kernel
theorem dL_law_265 : dec mL_law 265 = .ok (.if_icmp .eq 5, 3) := by decide +kernel
theorem dL_law_268 : dec mL_law 268 = .ok (.iconst 0, 1) := by decide +kernel
theorem dL_law_269 : dec mL_law 269 = .ok (.ireturn, 1) := by decide +kernel
theorem dL_law_270 : dec mL_law 270 = .ok (.iload 5, 2) := by decide +kernel
theorem dL_law_272 : dec mL_law 272 = .ok (.ifCond .ne 15, 3) := by decide +kernel
theorem dL_law_275 : dec mL_law 275 = .ok (.aload_n 3, 1) := by decide +kernel
theorem dL_law_276 : dec mL_law 276 = .ok (.iconst 0, 1) := by decide +kernel
theorem dL_law_277 : dec mL_law 277 = .ok (.laload, 1) := by decide +kernel
theorem dL_law_278 : dec mL_law 278 = .ok (.iload 6, 2) := by decide +kernel
theorem dL_law_280 : dec mL_law 280 = .ok (.i2l, 1) := by decide +kernel
theorem dL_law_281 : dec mL_law 281 = .ok (.lcmp, 1) := by decide +kernel
theorem dL_law_282 : dec mL_law 282 = .ok (.ifCond .eq 5, 3) := by decide +kernel
theorem dL_law_285 : dec mL_law 285 = .ok (.iconst 0, 1) := by decide +kernel
theorem dL_law_286 : dec mL_law 286 = .ok (.ireturn, 1) := by decide +kernel
theorem dL_law_287 : dec mL_law 287 = .ok (.goto 1497, 3) := by decide +kernel
theorem dL_law_290 : dec mL_law 290 = .ok (.aload_n 1, 1) := by decide +kernel
theorem dL_law_291 : dec mL_law 291 = .ok (.aload_n 0, 1) := by decide +kernel
theorem dL_law_292 : dec mL_law 292 = .ok (.iload 4, 2) := by decide +kernel
theorem dL_law_294 : dec mL_law 294 = .ok (.iconst 1, 1) := by decide +kernel
theorem dL_law_295 : dec mL_law 295 = .ok (.iadd, 1) := by decide +kernel
theorem dL_law_296 : dec mL_law 296 = .ok (.iaload, 1) := by decide +kernel
theorem dL_law_297 : dec mL_law 297 = .ok (.aload_n 3, 1) := by decide +kernel
theorem dL_law_298 : dec mL_law 298 = .ok (.invokestatic 119, 3) := by decide +kernel
theorem dL_law_301 : dec mL_law 301 = .ok (.istore 5, 2) := by decide +kernel
theorem dL_law_303 : dec mL_law 303 = .ok (.aload_n 2, 1) := by decide +kernel
theorem dL_law_304 : dec mL_law 304 = .ok (.aload_n 0, 1) := by decide +kernel
theorem dL_law_305 : dec mL_law 305 = .ok (.iload 4, 2) := by decide +kernel
theorem dL_law_307 : dec mL_law 307 = .ok (.iconst 1, 1) := by decide +kernel
theorem dL_law_308 : dec mL_law 308 = .ok (.iadd, 1) := by decide +kernel
theorem dL_law_309 : dec mL_law 309 = .ok (.iaload, 1) := by decide +kernel
theorem dL_law_310 : dec mL_law 310 = .ok (.invokevirtual 121, 3) := by decide +kernel
theorem dL_law_313 : dec mL_law 313 = .ok (.istore 6, 2) := by decide +kernel
theorem dL_law_315 : dec mL_law 315 = .ok (.aload_n 2, 1) := by decide +kernel
theorem dL_law_316 : dec mL_law 316 = .ok (.invokevirtual 104, 3) := by decide +kernel
theorem dL_law_319 : dec mL_law 319 = .ok (.iload 5, 2) := by decide +kernel
theorem dL_law_321 : dec mL_law 321 = .ok (.if_icmp .eq 5, 3) := by decide +kernel
theorem dL_law_324 : dec mL_law 324 = .ok (.iconst 0, 1) := by decide +kernel
theorem dL_law_325 : dec mL_law 325 = .ok (.ireturn, 1) := by decide +kernel
theorem dL_law_326 : dec mL_law 326 = .ok (.iload 5, 2) := by decide +kernel
theorem dL_law_328 : dec mL_law 328 = .ok (.ifCond .ne 15, 3) := by decide +kernel
theorem dL_law_331 : dec mL_law 331 = .ok (.aload_n 3, 1) := by decide +kernel
theorem dL_law_332 : dec mL_law 332 = .ok (.iconst 0, 1) := by decide +kernel
theorem dL_law_333 : dec mL_law 333 = .ok (.laload, 1) := by decide +kernel
theorem dL_law_334 : dec mL_law 334 = .ok (.iload 6, 2) := by decide +kernel
theorem dL_law_336 : dec mL_law 336 = .ok (.i2l, 1) := by decide +kernel
theorem dL_law_337 : dec mL_law 337 = .ok (.lcmp, 1) := by decide +kernel
theorem dL_law_338 : dec mL_law 338 = .ok (.ifCond .eq 5, 3) := by decide +kernel
theorem dL_law_341 : dec mL_law 341 = .ok (.iconst 0, 1) := by decide +kernel
theorem dL_law_342 : dec mL_law 342 = .ok (.ireturn, 1) := by decide +kernel
theorem dL_law_343 : dec mL_law 343 = .ok (.goto 1441, 3) := by decide +kernel
theorem dL_law_346 : dec mL_law 346 = .ok (.aload_n 1, 1) := by decide +kernel
theorem dL_law_347 : dec mL_law 347 = .ok (.aload_n 0, 1) := by decide +kernel
theorem dL_law_348 : dec mL_law 348 = .ok (.iload 4, 2) := by decide +kernel
theorem dL_law_350 : dec mL_law 350 = .ok (.iconst 1, 1) := by decide +kernel
theorem dL_law_351 : dec mL_law 351 = .ok (.iadd, 1) := by decide +kernel
theorem dL_law_352 : dec mL_law 352 = .ok (.iaload, 1) := by decide +kernel
theorem dL_law_353 : dec mL_law 353 = .ok (.aload_n 0, 1) := by decide +kernel
theorem dL_law_354 : dec mL_law 354 = .ok (.iload 4, 2) := by decide +kernel
theorem dL_law_356 : dec mL_law 356 = .ok (.iconst 2, 1) := by decide +kernel
theorem dL_law_357 : dec mL_law 357 = .ok (.iadd, 1) := by decide +kernel
theorem dL_law_358 : dec mL_law 358 = .ok (.iaload, 1) := by decide +kernel
theorem dL_law_359 : dec mL_law 359 = .ok (.aload_n 0, 1) := by decide +kernel
theorem dL_law_360 : dec mL_law 360 = .ok (.iload 4, 2) := by decide +kernel
theorem dL_law_362 : dec mL_law 362 = .ok (.iconst 3, 1) := by decide +kernel
theorem dL_law_363 : dec mL_law 363 = .ok (.iadd, 1) := by decide +kernel
theorem dL_law_364 : dec mL_law 364 = .ok (.iaload, 1) := by decide +kernel
theorem dL_law_365 : dec mL_law 365 = .ok (.aload_n 3, 1) := by decide +kernel
theorem dL_law_366 : dec mL_law 366 = .ok (.invokestatic 122, 3) := by decide +kernel
theorem dL_law_369 : dec mL_law 369 = .ok (.istore 5, 2) := by decide +kernel
theorem dL_law_371 : dec mL_law 371 = .ok (.aload_n 2, 1) := by decide +kernel
theorem dL_law_372 : dec mL_law 372 = .ok (.aload_n 0, 1) := by decide +kernel
theorem dL_law_373 : dec mL_law 373 = .ok (.iload 4, 2) := by decide +kernel
theorem dL_law_375 : dec mL_law 375 = .ok (.iconst 1, 1) := by decide +kernel
theorem dL_law_376 : dec mL_law 376 = .ok (.iadd, 1) := by decide +kernel
theorem dL_law_377 : dec mL_law 377 = .ok (.iaload, 1) := by decide +kernel
theorem dL_law_378 : dec mL_law 378 = .ok (.aload_n 0, 1) := by decide +kernel
theorem dL_law_379 : dec mL_law 379 = .ok (.iload 4, 2) := by decide +kernel
theorem dL_law_381 : dec mL_law 381 = .ok (.iconst 2, 1) := by decide +kernel
theorem dL_law_382 : dec mL_law 382 = .ok (.iadd, 1) := by decide +kernel
theorem dL_law_383 : dec mL_law 383 = .ok (.iaload, 1) := by decide +kernel
theorem dL_law_384 : dec mL_law 384 = .ok (.aload_n 0, 1) := by decide +kernel
theorem dL_law_385 : dec mL_law 385 = .ok (.iload 4, 2) := by decide +kernel
theorem dL_law_387 : dec mL_law 387 = .ok (.iconst 3, 1) := by decide +kernel
theorem dL_law_388 : dec mL_law 388 = .ok (.iadd, 1) := by decide +kernel
theorem dL_law_389 : dec mL_law 389 = .ok (.iaload, 1) := by decide +kernel
theorem dL_law_390 : dec mL_law 390 = .ok (.invokevirtual 125, 3) := by decide +kernel
theorem dL_law_393 : dec mL_law 393 = .ok (.istore 6, 2) := by decide +kernel
theorem dL_law_395 : dec mL_law 395 = .ok (.aload_n 2, 1) := by decide +kernel
theorem dL_law_396 : dec mL_law 396 = .ok (.invokevirtual 104, 3) := by decide +kernel
theorem dL_law_399 : dec mL_law 399 = .ok (.iload 5, 2) := by decide +kernel
theorem dL_law_401 : dec mL_law 401 = .ok (.if_icmp .eq 5, 3) := by decide +kernel
theorem dL_law_404 : dec mL_law 404 = .ok (.iconst 0, 1) := by decide +kernel
theorem dL_law_405 : dec mL_law 405 = .ok (.ireturn, 1) := by decide +kernel
theorem dL_law_406 : dec mL_law 406 = .ok (.iload 5, 2) := by decide +kernel
theorem dL_law_408 : dec mL_law 408 = .ok (.ifCond .ne 15, 3) := by decide +kernel
theorem dL_law_411 : dec mL_law 411 = .ok (.aload_n 3, 1) := by decide +kernel
theorem dL_law_412 : dec mL_law 412 = .ok (.iconst 0, 1) := by decide +kernel
theorem dL_law_413 : dec mL_law 413 = .ok (.laload, 1) := by decide +kernel
theorem dL_law_414 : dec mL_law 414 = .ok (.iload 6, 2) := by decide +kernel
theorem dL_law_416 : dec mL_law 416 = .ok (.i2l, 1) := by decide +kernel
theorem dL_law_417 : dec mL_law 417 = .ok (.lcmp, 1) := by decide +kernel
theorem dL_law_418 : dec mL_law 418 = .ok (.ifCond .eq 5, 3) := by decide +kernel
theorem dL_law_421 : dec mL_law 421 = .ok (.iconst 0, 1) := by decide +kernel
theorem dL_law_422 : dec mL_law 422 = .ok (.ireturn, 1) := by decide +kernel
theorem dL_law_423 : dec mL_law 423 = .ok (.goto 1361, 3) := by decide +kernel
theorem dL_law_426 : dec mL_law 426 = .ok (.aload_n 1, 1) := by decide +kernel
theorem dL_law_427 : dec mL_law 427 = .ok (.aload_n 0, 1) := by decide +kernel
theorem dL_law_428 : dec mL_law 428 = .ok (.iload 4, 2) := by decide +kernel
theorem dL_law_430 : dec mL_law 430 = .ok (.iconst 1, 1) := by decide +kernel
theorem dL_law_431 : dec mL_law 431 = .ok (.iadd, 1) := by decide +kernel
theorem dL_law_432 : dec mL_law 432 = .ok (.iaload, 1) := by decide +kernel
theorem dL_law_433 : dec mL_law 433 = .ok (.aload_n 0, 1) := by decide +kernel
theorem dL_law_434 : dec mL_law 434 = .ok (.iload 4, 2) := by decide +kernel
theorem dL_law_436 : dec mL_law 436 = .ok (.iconst 2, 1) := by decide +kernel
theorem dL_law_437 : dec mL_law 437 = .ok (.iadd, 1) := by decide +kernel
theorem dL_law_438 : dec mL_law 438 = .ok (.iaload, 1) := by decide +kernel
theorem dL_law_439 : dec mL_law 439 = .ok (.aload_n 3, 1) := by decide +kernel
theorem dL_law_440 : dec mL_law 440 = .ok (.invokestatic 126, 3) := by decide +kernel
theorem dL_law_443 : dec mL_law 443 = .ok (.istore 5, 2) := by decide +kernel
theorem dL_law_445 : dec mL_law 445 = .ok (.aload_n 2, 1) := by decide +kernel
theorem dL_law_446 : dec mL_law 446 = .ok (.aload_n 0, 1) := by decide +kernel
theorem dL_law_447 : dec mL_law 447 = .ok (.iload 4, 2) := by decide +kernel
theorem dL_law_449 : dec mL_law 449 = .ok (.iconst 1, 1) := by decide +kernel
theorem dL_law_450 : dec mL_law 450 = .ok (.iadd, 1) := by decide +kernel
theorem dL_law_451 : dec mL_law 451 = .ok (.iaload, 1) := by decide +kernel
theorem dL_law_452 : dec mL_law 452 = .ok (.aload_n 0, 1) := by decide +kernel
theorem dL_law_453 : dec mL_law 453 = .ok (.iload 4, 2) := by decide +kernel
theorem dL_law_455 : dec mL_law 455 = .ok (.iconst 2, 1) := by decide +kernel
theorem dL_law_456 : dec mL_law 456 = .ok (.iadd, 1) := by decide +kernel
theorem dL_law_457 : dec mL_law 457 = .ok (.iaload, 1) := by decide +kernel
theorem dL_law_458 : dec mL_law 458 = .ok (.invokevirtual 129, 3) := by decide +kernel
theorem dL_law_461 : dec mL_law 461 = .ok (.istore 6, 2) := by decide +kernel
theorem dL_law_463 : dec mL_law 463 = .ok (.aload_n 2, 1) := by decide +kernel
theorem dL_law_464 : dec mL_law 464 = .ok (.invokevirtual 104, 3) := by decide +kernel
theorem dL_law_467 : dec mL_law 467 = .ok (.iload 5, 2) := by decide +kernel
theorem dL_law_469 : dec mL_law 469 = .ok (.if_icmp .eq 5, 3) := by decide +kernel
theorem dL_law_472 : dec mL_law 472 = .ok (.iconst 0, 1) := by decide +kernel
theorem dL_law_473 : dec mL_law 473 = .ok (.ireturn, 1) := by decide +kernel
theorem dL_law_474 : dec mL_law 474 = .ok (.iload 5, 2) := by decide +kernel
theorem dL_law_476 : dec mL_law 476 = .ok (.ifCond .ne 15, 3) := by decide +kernel
theorem dL_law_479 : dec mL_law 479 = .ok (.aload_n 3, 1) := by decide +kernel
theorem dL_law_480 : dec mL_law 480 = .ok (.iconst 0, 1) := by decide +kernel
theorem dL_law_481 : dec mL_law 481 = .ok (.laload, 1) := by decide +kernel
theorem dL_law_482 : dec mL_law 482 = .ok (.iload 6, 2) := by decide +kernel
theorem dL_law_484 : dec mL_law 484 = .ok (.i2l, 1) := by decide +kernel
theorem dL_law_485 : dec mL_law 485 = .ok (.lcmp, 1) := by decide +kernel
theorem dL_law_486 : dec mL_law 486 = .ok (.ifCond .eq 5, 3) := by decide +kernel
theorem dL_law_489 : dec mL_law 489 = .ok (.iconst 0, 1) := by decide +kernel
theorem dL_law_490 : dec mL_law 490 = .ok (.ireturn, 1) := by decide +kernel
theorem dL_law_491 : dec mL_law 491 = .ok (.goto 1293, 3) := by decide +kernel
theorem dL_law_494 : dec mL_law 494 = .ok (.aload_n 1, 1) := by decide +kernel
theorem dL_law_495 : dec mL_law 495 = .ok (.aload_n 0, 1) := by decide +kernel
theorem dL_law_496 : dec mL_law 496 = .ok (.iload 4, 2) := by decide +kernel
theorem dL_law_498 : dec mL_law 498 = .ok (.iconst 1, 1) := by decide +kernel
theorem dL_law_499 : dec mL_law 499 = .ok (.iadd, 1) := by decide +kernel
theorem dL_law_500 : dec mL_law 500 = .ok (.iaload, 1) := by decide +kernel
theorem dL_law_501 : dec mL_law 501 = .ok (.aload_n 0, 1) := by decide +kernel
theorem dL_law_502 : dec mL_law 502 = .ok (.iload 4, 2) := by decide +kernel
theorem dL_law_504 : dec mL_law 504 = .ok (.iconst 2, 1) := by decide +kernel
theorem dL_law_505 : dec mL_law 505 = .ok (.iadd, 1) := by decide +kernel
theorem dL_law_506 : dec mL_law 506 = .ok (.iaload, 1) := by decide +kernel
theorem dL_law_507 : dec mL_law 507 = .ok (.aload_n 3, 1) := by decide +kernel
theorem dL_law_508 : dec mL_law 508 = .ok (.invokestatic 130, 3) := by decide +kernel
theorem dL_law_511 : dec mL_law 511 = .ok (.istore 5, 2) := by decide +kernel
theorem dL_law_513 : dec mL_law 513 = .ok (.aload_n 2, 1) := by decide +kernel
theorem dL_law_514 : dec mL_law 514 = .ok (.aload_n 0, 1) := by decide +kernel
theorem dL_law_515 : dec mL_law 515 = .ok (.iload 4, 2) := by decide +kernel
theorem dL_law_517 : dec mL_law 517 = .ok (.iconst 1, 1) := by decide +kernel
theorem dL_law_518 : dec mL_law 518 = .ok (.iadd, 1) := by decide +kernel
theorem dL_law_519 : dec mL_law 519 = .ok (.iaload, 1) := by decide +kernel
theorem dL_law_520 : dec mL_law 520 = .ok (.aload_n 0, 1) := by decide +kernel
theorem dL_law_521 : dec mL_law 521 = .ok (.iload 4, 2) := by decide +kernel
theorem dL_law_523 : dec mL_law 523 = .ok (.iconst 2, 1) := by decide +kernel
theorem dL_law_524 : dec mL_law 524 = .ok (.iadd, 1) := by decide +kernel
theorem dL_law_525 : dec mL_law 525 = .ok (.iaload, 1) := by decide +kernel
theorem dL_law_526 : dec mL_law 526 = .ok (.invokevirtual 132, 3) := by decide +kernel
theorem dL_law_529 : dec mL_law 529 = .ok (.istore 6, 2) := by decide +kernel
theorem dL_law_531 : dec mL_law 531 = .ok (.aload_n 2, 1) := by decide +kernel
theorem dL_law_532 : dec mL_law 532 = .ok (.invokevirtual 104, 3) := by decide +kernel
theorem dL_law_535 : dec mL_law 535 = .ok (.iload 5, 2) := by decide +kernel
theorem dL_law_537 : dec mL_law 537 = .ok (.if_icmp .eq 5, 3) := by decide +kernel
theorem dL_law_540 : dec mL_law 540 = .ok (.iconst 0, 1) := by decide +kernel
theorem dL_law_541 : dec mL_law 541 = .ok (.ireturn, 1) := by decide +kernel
theorem dL_law_542 : dec mL_law 542 = .ok (.iload 5, 2) := by decide +kernel
theorem dL_law_544 : dec mL_law 544 = .ok (.ifCond .ne 15, 3) := by decide +kernel
theorem dL_law_547 : dec mL_law 547 = .ok (.aload_n 3, 1) := by decide +kernel
theorem dL_law_548 : dec mL_law 548 = .ok (.iconst 0, 1) := by decide +kernel
theorem dL_law_549 : dec mL_law 549 = .ok (.laload, 1) := by decide +kernel
theorem dL_law_550 : dec mL_law 550 = .ok (.iload 6, 2) := by decide +kernel
theorem dL_law_552 : dec mL_law 552 = .ok (.i2l, 1) := by decide +kernel
theorem dL_law_553 : dec mL_law 553 = .ok (.lcmp, 1) := by decide +kernel
theorem dL_law_554 : dec mL_law 554 = .ok (.ifCond .eq 5, 3) := by decide +kernel
theorem dL_law_557 : dec mL_law 557 = .ok (.iconst 0, 1) := by decide +kernel
theorem dL_law_558 : dec mL_law 558 = .ok (.ireturn, 1) := by decide +kernel
theorem dL_law_559 : dec mL_law 559 = .ok (.goto 1225, 3) := by decide +kernel
theorem dL_law_562 : dec mL_law 562 = .ok (.aload_n 1, 1) := by decide +kernel
theorem dL_law_563 : dec mL_law 563 = .ok (.aload_n 0, 1) := by decide +kernel
theorem dL_law_564 : dec mL_law 564 = .ok (.iload 4, 2) := by decide +kernel
theorem dL_law_566 : dec mL_law 566 = .ok (.iconst 1, 1) := by decide +kernel
theorem dL_law_567 : dec mL_law 567 = .ok (.iadd, 1) := by decide +kernel
theorem dL_law_568 : dec mL_law 568 = .ok (.iaload, 1) := by decide +kernel
theorem dL_law_569 : dec mL_law 569 = .ok (.aload_n 0, 1) := by decide +kernel
theorem dL_law_570 : dec mL_law 570 = .ok (.iload 4, 2) := by decide +kernel
theorem dL_law_572 : dec mL_law 572 = .ok (.iconst 2, 1) := by decide +kernel
theorem dL_law_573 : dec mL_law 573 = .ok (.iadd, 1) := by decide +kernel
theorem dL_law_574 : dec mL_law 574 = .ok (.iaload, 1) := by decide +kernel
theorem dL_law_575 : dec mL_law 575 = .ok (.aload_n 3, 1) := by decide +kernel
theorem dL_law_576 : dec mL_law 576 = .ok (.invokestatic 133, 3) := by decide +kernel
theorem dL_law_579 : dec mL_law 579 = .ok (.istore 5, 2) := by decide +kernel
theorem dL_law_581 : dec mL_law 581 = .ok (.aload_n 2, 1) := by decide +kernel
theorem dL_law_582 : dec mL_law 582 = .ok (.aload_n 0, 1) := by decide +kernel
theorem dL_law_583 : dec mL_law 583 = .ok (.iload 4, 2) := by decide +kernel
theorem dL_law_585 : dec mL_law 585 = .ok (.iconst 1, 1) := by decide +kernel
theorem dL_law_586 : dec mL_law 586 = .ok (.iadd, 1) := by decide +kernel
theorem dL_law_587 : dec mL_law 587 = .ok (.iaload, 1) := by decide +kernel
theorem dL_law_588 : dec mL_law 588 = .ok (.aload_n 0, 1) := by decide +kernel
theorem dL_law_589 : dec mL_law 589 = .ok (.iload 4, 2) := by decide +kernel
theorem dL_law_591 : dec mL_law 591 = .ok (.iconst 2, 1) := by decide +kernel
theorem dL_law_592 : dec mL_law 592 = .ok (.iadd, 1) := by decide +kernel
theorem dL_law_593 : dec mL_law 593 = .ok (.iaload, 1) := by decide +kernel
theorem dL_law_594 : dec mL_law 594 = .ok (.invokevirtual 135, 3) := by decide +kernel
theorem dL_law_597 : dec mL_law 597 = .ok (.istore 6, 2) := by decide +kernel
theorem dL_law_599 : dec mL_law 599 = .ok (.aload_n 2, 1) := by decide +kernel
theorem dL_law_600 : dec mL_law 600 = .ok (.invokevirtual 104, 3) := by decide +kernel
theorem dL_law_603 : dec mL_law 603 = .ok (.iload 5, 2) := by decide +kernel
theorem dL_law_605 : dec mL_law 605 = .ok (.if_icmp .eq 5, 3) := by decide +kernel
theorem dL_law_608 : dec mL_law 608 = .ok (.iconst 0, 1) := by decide +kernel
theorem dL_law_609 : dec mL_law 609 = .ok (.ireturn, 1) := by decide +kernel
theorem dL_law_610 : dec mL_law 610 = .ok (.iload 5, 2) := by decide +kernel
theorem dL_law_612 : dec mL_law 612 = .ok (.ifCond .ne 15, 3) := by decide +kernel
theorem dL_law_615 : dec mL_law 615 = .ok (.aload_n 3, 1) := by decide +kernel
theorem dL_law_616 : dec mL_law 616 = .ok (.iconst 0, 1) := by decide +kernel
theorem dL_law_617 : dec mL_law 617 = .ok (.laload, 1) := by decide +kernel
theorem dL_law_618 : dec mL_law 618 = .ok (.iload 6, 2) := by decide +kernel
theorem dL_law_620 : dec mL_law 620 = .ok (.i2l, 1) := by decide +kernel
theorem dL_law_621 : dec mL_law 621 = .ok (.lcmp, 1) := by decide +kernel
theorem dL_law_622 : dec mL_law 622 = .ok (.ifCond .eq 5, 3) := by decide +kernel
theorem dL_law_625 : dec mL_law 625 = .ok (.iconst 0, 1) := by decide +kernel
theorem dL_law_626 : dec mL_law 626 = .ok (.ireturn, 1) := by decide +kernel
theorem dL_law_627 : dec mL_law 627 = .ok (.goto 1157, 3) := by decide +kernel
theorem dL_law_630 : dec mL_law 630 = .ok (.aload_n 1, 1) := by decide +kernel
theorem dL_law_631 : dec mL_law 631 = .ok (.aload_n 0, 1) := by decide +kernel
theorem dL_law_632 : dec mL_law 632 = .ok (.iload 4, 2) := by decide +kernel
theorem dL_law_634 : dec mL_law 634 = .ok (.iconst 1, 1) := by decide +kernel
theorem dL_law_635 : dec mL_law 635 = .ok (.iadd, 1) := by decide +kernel
theorem dL_law_636 : dec mL_law 636 = .ok (.iaload, 1) := by decide +kernel
theorem dL_law_637 : dec mL_law 637 = .ok (.aload_n 0, 1) := by decide +kernel
theorem dL_law_638 : dec mL_law 638 = .ok (.iload 4, 2) := by decide +kernel
theorem dL_law_640 : dec mL_law 640 = .ok (.iconst 2, 1) := by decide +kernel
theorem dL_law_641 : dec mL_law 641 = .ok (.iadd, 1) := by decide +kernel
theorem dL_law_642 : dec mL_law 642 = .ok (.iaload, 1) := by decide +kernel
theorem dL_law_643 : dec mL_law 643 = .ok (.aload_n 0, 1) := by decide +kernel
theorem dL_law_644 : dec mL_law 644 = .ok (.iload 4, 2) := by decide +kernel
theorem dL_law_646 : dec mL_law 646 = .ok (.iconst 3, 1) := by decide +kernel
theorem dL_law_647 : dec mL_law 647 = .ok (.iadd, 1) := by decide +kernel
theorem dL_law_648 : dec mL_law 648 = .ok (.iaload, 1) := by decide +kernel
theorem dL_law_649 : dec mL_law 649 = .ok (.aload_n 3, 1) := by decide +kernel
theorem dL_law_650 : dec mL_law 650 = .ok (.invokestatic 136, 3) := by decide +kernel
theorem dL_law_653 : dec mL_law 653 = .ok (.istore 5, 2) := by decide +kernel
theorem dL_law_655 : dec mL_law 655 = .ok (.aload_n 2, 1) := by decide +kernel
theorem dL_law_656 : dec mL_law 656 = .ok (.aload_n 0, 1) := by decide +kernel
theorem dL_law_657 : dec mL_law 657 = .ok (.iload 4, 2) := by decide +kernel
theorem dL_law_659 : dec mL_law 659 = .ok (.iconst 1, 1) := by decide +kernel
theorem dL_law_660 : dec mL_law 660 = .ok (.iadd, 1) := by decide +kernel
theorem dL_law_661 : dec mL_law 661 = .ok (.iaload, 1) := by decide +kernel
theorem dL_law_662 : dec mL_law 662 = .ok (.aload_n 0, 1) := by decide +kernel
theorem dL_law_663 : dec mL_law 663 = .ok (.iload 4, 2) := by decide +kernel
theorem dL_law_665 : dec mL_law 665 = .ok (.iconst 2, 1) := by decide +kernel
theorem dL_law_666 : dec mL_law 666 = .ok (.iadd, 1) := by decide +kernel
theorem dL_law_667 : dec mL_law 667 = .ok (.iaload, 1) := by decide +kernel
theorem dL_law_668 : dec mL_law 668 = .ok (.aload_n 0, 1) := by decide +kernel
theorem dL_law_669 : dec mL_law 669 = .ok (.iload 4, 2) := by decide +kernel
theorem dL_law_671 : dec mL_law 671 = .ok (.iconst 3, 1) := by decide +kernel
theorem dL_law_672 : dec mL_law 672 = .ok (.iadd, 1) := by decide +kernel
theorem dL_law_673 : dec mL_law 673 = .ok (.iaload, 1) := by decide +kernel
theorem dL_law_674 : dec mL_law 674 = .ok (.invokevirtual 138, 3) := by decide +kernel
theorem dL_law_677 : dec mL_law 677 = .ok (.istore 6, 2) := by decide +kernel
theorem dL_law_679 : dec mL_law 679 = .ok (.aload_n 2, 1) := by decide +kernel
theorem dL_law_680 : dec mL_law 680 = .ok (.invokevirtual 104, 3) := by decide +kernel
theorem dL_law_683 : dec mL_law 683 = .ok (.iload 5, 2) := by decide +kernel
theorem dL_law_685 : dec mL_law 685 = .ok (.if_icmp .eq 5, 3) := by decide +kernel
theorem dL_law_688 : dec mL_law 688 = .ok (.iconst 0, 1) := by decide +kernel
theorem dL_law_689 : dec mL_law 689 = .ok (.ireturn, 1) := by decide +kernel
theorem dL_law_690 : dec mL_law 690 = .ok (.iload 5, 2) := by decide +kernel
theorem dL_law_692 : dec mL_law 692 = .ok (.ifCond .ne 15, 3) := by decide +kernel
theorem dL_law_695 : dec mL_law 695 = .ok (.aload_n 3, 1) := by decide +kernel
theorem dL_law_696 : dec mL_law 696 = .ok (.iconst 0, 1) := by decide +kernel
theorem dL_law_697 : dec mL_law 697 = .ok (.laload, 1) := by decide +kernel
theorem dL_law_698 : dec mL_law 698 = .ok (.iload 6, 2) := by decide +kernel
theorem dL_law_700 : dec mL_law 700 = .ok (.i2l, 1) := by decide +kernel
theorem dL_law_701 : dec mL_law 701 = .ok (.lcmp, 1) := by decide +kernel
theorem dL_law_702 : dec mL_law 702 = .ok (.ifCond .eq 5, 3) := by decide +kernel
theorem dL_law_705 : dec mL_law 705 = .ok (.iconst 0, 1) := by decide +kernel
theorem dL_law_706 : dec mL_law 706 = .ok (.ireturn, 1) := by decide +kernel
theorem dL_law_707 : dec mL_law 707 = .ok (.goto 1077, 3) := by decide +kernel
theorem dL_law_710 : dec mL_law 710 = .ok (.aload_n 1, 1) := by decide +kernel
theorem dL_law_711 : dec mL_law 711 = .ok (.aload_n 0, 1) := by decide +kernel
theorem dL_law_712 : dec mL_law 712 = .ok (.iload 4, 2) := by decide +kernel
theorem dL_law_714 : dec mL_law 714 = .ok (.iconst 1, 1) := by decide +kernel
theorem dL_law_715 : dec mL_law 715 = .ok (.iadd, 1) := by decide +kernel
theorem dL_law_716 : dec mL_law 716 = .ok (.iaload, 1) := by decide +kernel
theorem dL_law_717 : dec mL_law 717 = .ok (.aload_n 0, 1) := by decide +kernel
theorem dL_law_718 : dec mL_law 718 = .ok (.iload 4, 2) := by decide +kernel
theorem dL_law_720 : dec mL_law 720 = .ok (.iconst 2, 1) := by decide +kernel
theorem dL_law_721 : dec mL_law 721 = .ok (.iadd, 1) := by decide +kernel
theorem dL_law_722 : dec mL_law 722 = .ok (.iaload, 1) := by decide +kernel
theorem dL_law_723 : dec mL_law 723 = .ok (.aload_n 3, 1) := by decide +kernel
theorem dL_law_724 : dec mL_law 724 = .ok (.invokestatic 139, 3) := by decide +kernel
theorem dL_law_727 : dec mL_law 727 = .ok (.istore 5, 2) := by decide +kernel
theorem dL_law_729 : dec mL_law 729 = .ok (.aload_n 2, 1) := by decide +kernel
theorem dL_law_730 : dec mL_law 730 = .ok (.aload_n 0, 1) := by decide +kernel
theorem dL_law_731 : dec mL_law 731 = .ok (.iload 4, 2) := by decide +kernel
theorem dL_law_733 : dec mL_law 733 = .ok (.iconst 1, 1) := by decide +kernel
theorem dL_law_734 : dec mL_law 734 = .ok (.iadd, 1) := by decide +kernel
theorem dL_law_735 : dec mL_law 735 = .ok (.iaload, 1) := by decide +kernel
theorem dL_law_736 : dec mL_law 736 = .ok (.aload_n 0, 1) := by decide +kernel
theorem dL_law_737 : dec mL_law 737 = .ok (.iload 4, 2) := by decide +kernel
theorem dL_law_739 : dec mL_law 739 = .ok (.iconst 2, 1) := by decide +kernel
theorem dL_law_740 : dec mL_law 740 = .ok (.iadd, 1) := by decide +kernel
theorem dL_law_741 : dec mL_law 741 = .ok (.iaload, 1) := by decide +kernel
theorem dL_law_742 : dec mL_law 742 = .ok (.invokevirtual 141, 3) := by decide +kernel
theorem dL_law_745 : dec mL_law 745 = .ok (.istore 6, 2) := by decide +kernel
theorem dL_law_747 : dec mL_law 747 = .ok (.aload_n 2, 1) := by decide +kernel
theorem dL_law_748 : dec mL_law 748 = .ok (.invokevirtual 104, 3) := by decide +kernel
theorem dL_law_751 : dec mL_law 751 = .ok (.iload 5, 2) := by decide +kernel
theorem dL_law_753 : dec mL_law 753 = .ok (.if_icmp .eq 5, 3) := by decide +kernel
theorem dL_law_756 : dec mL_law 756 = .ok (.iconst 0, 1) := by decide +kernel
theorem dL_law_757 : dec mL_law 757 = .ok (.ireturn, 1) := by decide +kernel
theorem dL_law_758 : dec mL_law 758 = .ok (.iload 5, 2) := by decide +kernel
theorem dL_law_760 : dec mL_law 760 = .ok (.ifCond .ne 15, 3) := by decide +kernel
theorem dL_law_763 : dec mL_law 763 = .ok (.aload_n 3, 1) := by decide +kernel
theorem dL_law_764 : dec mL_law 764 = .ok (.iconst 0, 1) := by decide +kernel
theorem dL_law_765 : dec mL_law 765 = .ok (.laload, 1) := by decide +kernel
theorem dL_law_766 : dec mL_law 766 = .ok (.iload 6, 2) := by decide +kernel
theorem dL_law_768 : dec mL_law 768 = .ok (.i2l, 1) := by decide +kernel
theorem dL_law_769 : dec mL_law 769 = .ok (.lcmp, 1) := by decide +kernel
theorem dL_law_770 : dec mL_law 770 = .ok (.ifCond .eq 5, 3) := by decide +kernel
theorem dL_law_773 : dec mL_law 773 = .ok (.iconst 0, 1) := by decide +kernel
theorem dL_law_774 : dec mL_law 774 = .ok (.ireturn, 1) := by decide +kernel
theorem dL_law_775 : dec mL_law 775 = .ok (.goto 1009, 3) := by decide +kernel
theorem dL_law_778 : dec mL_law 778 = .ok (.aload_n 1, 1) := by decide +kernel
theorem dL_law_779 : dec mL_law 779 = .ok (.aload_n 0, 1) := by decide +kernel
theorem dL_law_780 : dec mL_law 780 = .ok (.iload 4, 2) := by decide +kernel
theorem dL_law_782 : dec mL_law 782 = .ok (.iconst 1, 1) := by decide +kernel
theorem dL_law_783 : dec mL_law 783 = .ok (.iadd, 1) := by decide +kernel
theorem dL_law_784 : dec mL_law 784 = .ok (.iaload, 1) := by decide +kernel
theorem dL_law_785 : dec mL_law 785 = .ok (.aload_n 3, 1) := by decide +kernel
theorem dL_law_786 : dec mL_law 786 = .ok (.invokestatic 142, 3) := by decide +kernel
theorem dL_law_789 : dec mL_law 789 = .ok (.istore 5, 2) := by decide +kernel
theorem dL_law_791 : dec mL_law 791 = .ok (.aload_n 2, 1) := by decide +kernel
theorem dL_law_792 : dec mL_law 792 = .ok (.aload_n 0, 1) := by decide +kernel
theorem dL_law_793 : dec mL_law 793 = .ok (.iload 4, 2) := by decide +kernel
theorem dL_law_795 : dec mL_law 795 = .ok (.iconst 1, 1) := by decide +kernel
theorem dL_law_796 : dec mL_law 796 = .ok (.iadd, 1) := by decide +kernel
theorem dL_law_797 : dec mL_law 797 = .ok (.iaload, 1) := by decide +kernel
theorem dL_law_798 : dec mL_law 798 = .ok (.invokevirtual 144, 3) := by decide +kernel
theorem dL_law_801 : dec mL_law 801 = .ok (.istore 6, 2) := by decide +kernel
theorem dL_law_803 : dec mL_law 803 = .ok (.aload_n 2, 1) := by decide +kernel
theorem dL_law_804 : dec mL_law 804 = .ok (.invokevirtual 104, 3) := by decide +kernel
theorem dL_law_807 : dec mL_law 807 = .ok (.iload 5, 2) := by decide +kernel
theorem dL_law_809 : dec mL_law 809 = .ok (.if_icmp .eq 5, 3) := by decide +kernel
theorem dL_law_812 : dec mL_law 812 = .ok (.iconst 0, 1) := by decide +kernel
theorem dL_law_813 : dec mL_law 813 = .ok (.ireturn, 1) := by decide +kernel
theorem dL_law_814 : dec mL_law 814 = .ok (.iload 5, 2) := by decide +kernel
theorem dL_law_816 : dec mL_law 816 = .ok (.ifCond .ne 15, 3) := by decide +kernel
theorem dL_law_819 : dec mL_law 819 = .ok (.aload_n 3, 1) := by decide +kernel
theorem dL_law_820 : dec mL_law 820 = .ok (.iconst 0, 1) := by decide +kernel
theorem dL_law_821 : dec mL_law 821 = .ok (.laload, 1) := by decide +kernel
theorem dL_law_822 : dec mL_law 822 = .ok (.iload 6, 2) := by decide +kernel
theorem dL_law_824 : dec mL_law 824 = .ok (.i2l, 1) := by decide +kernel
theorem dL_law_825 : dec mL_law 825 = .ok (.lcmp, 1) := by decide +kernel
theorem dL_law_826 : dec mL_law 826 = .ok (.ifCond .eq 5, 3) := by decide +kernel
theorem dL_law_829 : dec mL_law 829 = .ok (.iconst 0, 1) := by decide +kernel
theorem dL_law_830 : dec mL_law 830 = .ok (.ireturn, 1) := by decide +kernel
theorem dL_law_831 : dec mL_law 831 = .ok (.goto 953, 3) := by decide +kernel
theorem dL_law_834 : dec mL_law 834 = .ok (.aload_n 1, 1) := by decide +kernel
theorem dL_law_835 : dec mL_law 835 = .ok (.aload_n 0, 1) := by decide +kernel
theorem dL_law_836 : dec mL_law 836 = .ok (.iload 4, 2) := by decide +kernel
theorem dL_law_838 : dec mL_law 838 = .ok (.iconst 1, 1) := by decide +kernel
theorem dL_law_839 : dec mL_law 839 = .ok (.iadd, 1) := by decide +kernel
theorem dL_law_840 : dec mL_law 840 = .ok (.iaload, 1) := by decide +kernel
theorem dL_law_841 : dec mL_law 841 = .ok (.aload_n 0, 1) := by decide +kernel
theorem dL_law_842 : dec mL_law 842 = .ok (.iload 4, 2) := by decide +kernel
theorem dL_law_844 : dec mL_law 844 = .ok (.iconst 2, 1) := by decide +kernel
theorem dL_law_845 : dec mL_law 845 = .ok (.iadd, 1) := by decide +kernel
theorem dL_law_846 : dec mL_law 846 = .ok (.iaload, 1) := by decide +kernel
theorem dL_law_847 : dec mL_law 847 = .ok (.aload_n 3, 1) := by decide +kernel
theorem dL_law_848 : dec mL_law 848 = .ok (.invokestatic 145, 3) := by decide +kernel
theorem dL_law_851 : dec mL_law 851 = .ok (.istore 5, 2) := by decide +kernel
theorem dL_law_853 : dec mL_law 853 = .ok (.aload_n 2, 1) := by decide +kernel
theorem dL_law_854 : dec mL_law 854 = .ok (.aload_n 0, 1) := by decide +kernel
theorem dL_law_855 : dec mL_law 855 = .ok (.iload 4, 2) := by decide +kernel
theorem dL_law_857 : dec mL_law 857 = .ok (.iconst 1, 1) := by decide +kernel
theorem dL_law_858 : dec mL_law 858 = .ok (.iadd, 1) := by decide +kernel
theorem dL_law_859 : dec mL_law 859 = .ok (.iaload, 1) := by decide +kernel
theorem dL_law_860 : dec mL_law 860 = .ok (.aload_n 0, 1) := by decide +kernel
theorem dL_law_861 : dec mL_law 861 = .ok (.iload 4, 2) := by decide +kernel
theorem dL_law_863 : dec mL_law 863 = .ok (.iconst 2, 1) := by decide +kernel
theorem dL_law_864 : dec mL_law 864 = .ok (.iadd, 1) := by decide +kernel
theorem dL_law_865 : dec mL_law 865 = .ok (.iaload, 1) := by decide +kernel
theorem dL_law_866 : dec mL_law 866 = .ok (.invokevirtual 147, 3) := by decide +kernel
theorem dL_law_869 : dec mL_law 869 = .ok (.istore 6, 2) := by decide +kernel
theorem dL_law_871 : dec mL_law 871 = .ok (.aload_n 2, 1) := by decide +kernel
theorem dL_law_872 : dec mL_law 872 = .ok (.invokevirtual 104, 3) := by decide +kernel
theorem dL_law_875 : dec mL_law 875 = .ok (.iload 5, 2) := by decide +kernel
theorem dL_law_877 : dec mL_law 877 = .ok (.if_icmp .eq 5, 3) := by decide +kernel
theorem dL_law_880 : dec mL_law 880 = .ok (.iconst 0, 1) := by decide +kernel
theorem dL_law_881 : dec mL_law 881 = .ok (.ireturn, 1) := by decide +kernel
theorem dL_law_882 : dec mL_law 882 = .ok (.iload 5, 2) := by decide +kernel
theorem dL_law_884 : dec mL_law 884 = .ok (.ifCond .ne 15, 3) := by decide +kernel
theorem dL_law_887 : dec mL_law 887 = .ok (.aload_n 3, 1) := by decide +kernel
theorem dL_law_888 : dec mL_law 888 = .ok (.iconst 0, 1) := by decide +kernel
theorem dL_law_889 : dec mL_law 889 = .ok (.laload, 1) := by decide +kernel
theorem dL_law_890 : dec mL_law 890 = .ok (.iload 6, 2) := by decide +kernel
theorem dL_law_892 : dec mL_law 892 = .ok (.i2l, 1) := by decide +kernel
theorem dL_law_893 : dec mL_law 893 = .ok (.lcmp, 1) := by decide +kernel
theorem dL_law_894 : dec mL_law 894 = .ok (.ifCond .eq 5, 3) := by decide +kernel
theorem dL_law_897 : dec mL_law 897 = .ok (.iconst 0, 1) := by decide +kernel
theorem dL_law_898 : dec mL_law 898 = .ok (.ireturn, 1) := by decide +kernel
theorem dL_law_899 : dec mL_law 899 = .ok (.goto 885, 3) := by decide +kernel
theorem dL_law_902 : dec mL_law 902 = .ok (.aload_n 1, 1) := by decide +kernel
theorem dL_law_903 : dec mL_law 903 = .ok (.aload_n 0, 1) := by decide +kernel
theorem dL_law_904 : dec mL_law 904 = .ok (.iload 4, 2) := by decide +kernel
theorem dL_law_906 : dec mL_law 906 = .ok (.iconst 1, 1) := by decide +kernel
theorem dL_law_907 : dec mL_law 907 = .ok (.iadd, 1) := by decide +kernel
theorem dL_law_908 : dec mL_law 908 = .ok (.iaload, 1) := by decide +kernel
theorem dL_law_909 : dec mL_law 909 = .ok (.aload_n 0, 1) := by decide +kernel
theorem dL_law_910 : dec mL_law 910 = .ok (.iload 4, 2) := by decide +kernel
theorem dL_law_912 : dec mL_law 912 = .ok (.iconst 2, 1) := by decide +kernel
theorem dL_law_913 : dec mL_law 913 = .ok (.iadd, 1) := by decide +kernel
theorem dL_law_914 : dec mL_law 914 = .ok (.iaload, 1) := by decide +kernel
theorem dL_law_915 : dec mL_law 915 = .ok (.aload_n 3, 1) := by decide +kernel
theorem dL_law_916 : dec mL_law 916 = .ok (.invokestatic 148, 3) := by decide +kernel
theorem dL_law_919 : dec mL_law 919 = .ok (.istore 5, 2) := by decide +kernel
theorem dL_law_921 : dec mL_law 921 = .ok (.aload_n 2, 1) := by decide +kernel
theorem dL_law_922 : dec mL_law 922 = .ok (.aload_n 0, 1) := by decide +kernel
theorem dL_law_923 : dec mL_law 923 = .ok (.iload 4, 2) := by decide +kernel
theorem dL_law_925 : dec mL_law 925 = .ok (.iconst 1, 1) := by decide +kernel
theorem dL_law_926 : dec mL_law 926 = .ok (.iadd, 1) := by decide +kernel
theorem dL_law_927 : dec mL_law 927 = .ok (.iaload, 1) := by decide +kernel
theorem dL_law_928 : dec mL_law 928 = .ok (.aload_n 0, 1) := by decide +kernel
theorem dL_law_929 : dec mL_law 929 = .ok (.iload 4, 2) := by decide +kernel
theorem dL_law_931 : dec mL_law 931 = .ok (.iconst 2, 1) := by decide +kernel
theorem dL_law_932 : dec mL_law 932 = .ok (.iadd, 1) := by decide +kernel
theorem dL_law_933 : dec mL_law 933 = .ok (.iaload, 1) := by decide +kernel
theorem dL_law_934 : dec mL_law 934 = .ok (.invokevirtual 150, 3) := by decide +kernel
theorem dL_law_937 : dec mL_law 937 = .ok (.istore 6, 2) := by decide +kernel
theorem dL_law_939 : dec mL_law 939 = .ok (.aload_n 2, 1) := by decide +kernel
theorem dL_law_940 : dec mL_law 940 = .ok (.invokevirtual 104, 3) := by decide +kernel
theorem dL_law_943 : dec mL_law 943 = .ok (.iload 5, 2) := by decide +kernel
theorem dL_law_945 : dec mL_law 945 = .ok (.if_icmp .eq 5, 3) := by decide +kernel
theorem dL_law_948 : dec mL_law 948 = .ok (.iconst 0, 1) := by decide +kernel
theorem dL_law_949 : dec mL_law 949 = .ok (.ireturn, 1) := by decide +kernel
theorem dL_law_950 : dec mL_law 950 = .ok (.iload 5, 2) := by decide +kernel
theorem dL_law_952 : dec mL_law 952 = .ok (.ifCond .ne 15, 3) := by decide +kernel
theorem dL_law_955 : dec mL_law 955 = .ok (.aload_n 3, 1) := by decide +kernel
theorem dL_law_956 : dec mL_law 956 = .ok (.iconst 0, 1) := by decide +kernel
theorem dL_law_957 : dec mL_law 957 = .ok (.laload, 1) := by decide +kernel
theorem dL_law_958 : dec mL_law 958 = .ok (.iload 6, 2) := by decide +kernel
theorem dL_law_960 : dec mL_law 960 = .ok (.i2l, 1) := by decide +kernel
theorem dL_law_961 : dec mL_law 961 = .ok (.lcmp, 1) := by decide +kernel
theorem dL_law_962 : dec mL_law 962 = .ok (.ifCond .eq 5, 3) := by decide +kernel
theorem dL_law_965 : dec mL_law 965 = .ok (.iconst 0, 1) := by decide +kernel
theorem dL_law_966 : dec mL_law 966 = .ok (.ireturn, 1) := by decide +kernel
theorem dL_law_967 : dec mL_law 967 = .ok (.goto 817, 3) := by decide +kernel
theorem dL_law_970 : dec mL_law 970 = .ok (.aload_n 1, 1) := by decide +kernel
theorem dL_law_971 : dec mL_law 971 = .ok (.aload_n 0, 1) := by decide +kernel
theorem dL_law_972 : dec mL_law 972 = .ok (.iload 4, 2) := by decide +kernel
theorem dL_law_974 : dec mL_law 974 = .ok (.iconst 1, 1) := by decide +kernel
theorem dL_law_975 : dec mL_law 975 = .ok (.iadd, 1) := by decide +kernel
theorem dL_law_976 : dec mL_law 976 = .ok (.iaload, 1) := by decide +kernel
theorem dL_law_977 : dec mL_law 977 = .ok (.aload_n 0, 1) := by decide +kernel
theorem dL_law_978 : dec mL_law 978 = .ok (.iload 4, 2) := by decide +kernel
theorem dL_law_980 : dec mL_law 980 = .ok (.iconst 2, 1) := by decide +kernel
theorem dL_law_981 : dec mL_law 981 = .ok (.iadd, 1) := by decide +kernel
theorem dL_law_982 : dec mL_law 982 = .ok (.iaload, 1) := by decide +kernel
theorem dL_law_983 : dec mL_law 983 = .ok (.ifCond .eq 7, 3) := by decide +kernel
theorem dL_law_986 : dec mL_law 986 = .ok (.iconst 1, 1) := by decide +kernel
theorem dL_law_987 : dec mL_law 987 = .ok (.goto 4, 3) := by decide +kernel
theorem dL_law_990 : dec mL_law 990 = .ok (.iconst 0, 1) := by decide +kernel
theorem dL_law_991 : dec mL_law 991 = .ok (.aload_n 3, 1) := by decide +kernel
theorem dL_law_992 : dec mL_law 992 = .ok (.invokestatic 151, 3) := by decide +kernel
theorem dL_law_995 : dec mL_law 995 = .ok (.istore 5, 2) := by decide +kernel
theorem dL_law_997 : dec mL_law 997 = .ok (.aload_n 2, 1) := by decide +kernel
theorem dL_law_998 : dec mL_law 998 = .ok (.aload_n 0, 1) := by decide +kernel
theorem dL_law_999 : dec mL_law 999 = .ok (.iload 4, 2) := by decide +kernel
theorem dL_law_1001 : dec mL_law 1001 = .ok (.iconst 1, 1) := by decide +kernel
theorem dL_law_1002 : dec mL_law 1002 = .ok (.iadd, 1) := by decide +kernel
theorem dL_law_1003 : dec mL_law 1003 = .ok (.iaload, 1) := by decide +kernel
theorem dL_law_1004 : dec mL_law 1004 = .ok (.aload_n 0, 1) := by decide +kernel
theorem dL_law_1005 : dec mL_law 1005 = .ok (.iload 4, 2) := by decide +kernel
theorem dL_law_1007 : dec mL_law 1007 = .ok (.iconst 2, 1) := by decide +kernel
theorem dL_law_1008 : dec mL_law 1008 = .ok (.iadd, 1) := by decide +kernel
theorem dL_law_1009 : dec mL_law 1009 = .ok (.iaload, 1) := by decide +kernel
theorem dL_law_1010 : dec mL_law 1010 = .ok (.ifCond .eq 7, 3) := by decide +kernel
theorem dL_law_1013 : dec mL_law 1013 = .ok (.iconst 1, 1) := by decide +kernel
theorem dL_law_1014 : dec mL_law 1014 = .ok (.goto 4, 3) := by decide +kernel
theorem dL_law_1017 : dec mL_law 1017 = .ok (.iconst 0, 1) := by decide +kernel
theorem dL_law_1018 : dec mL_law 1018 = .ok (.invokevirtual 154, 3) := by decide +kernel
theorem dL_law_1021 : dec mL_law 1021 = .ok (.istore 6, 2) := by decide +kernel
theorem dL_law_1023 : dec mL_law 1023 = .ok (.aload_n 2, 1) := by decide +kernel
theorem dL_law_1024 : dec mL_law 1024 = .ok (.invokevirtual 104, 3) := by decide +kernel
theorem dL_law_1027 : dec mL_law 1027 = .ok (.iload 5, 2) := by decide +kernel
theorem dL_law_1029 : dec mL_law 1029 = .ok (.if_icmp .eq 5, 3) := by decide +kernel
theorem dL_law_1032 : dec mL_law 1032 = .ok (.iconst 0, 1) := by decide +kernel
theorem dL_law_1033 : dec mL_law 1033 = .ok (.ireturn, 1) := by decide +kernel
theorem dL_law_1034 : dec mL_law 1034 = .ok (.iload 5, 2) := by decide +kernel
theorem dL_law_1036 : dec mL_law 1036 = .ok (.ifCond .ne 15, 3) := by decide +kernel
theorem dL_law_1039 : dec mL_law 1039 = .ok (.aload_n 3, 1) := by decide +kernel
theorem dL_law_1040 : dec mL_law 1040 = .ok (.iconst 0, 1) := by decide +kernel
theorem dL_law_1041 : dec mL_law 1041 = .ok (.laload, 1) := by decide +kernel
theorem dL_law_1042 : dec mL_law 1042 = .ok (.iload 6, 2) := by decide +kernel
theorem dL_law_1044 : dec mL_law 1044 = .ok (.i2l, 1) := by decide +kernel
theorem dL_law_1045 : dec mL_law 1045 = .ok (.lcmp, 1) := by decide +kernel
theorem dL_law_1046 : dec mL_law 1046 = .ok (.ifCond .eq 5, 3) := by decide +kernel
theorem dL_law_1049 : dec mL_law 1049 = .ok (.iconst 0, 1) := by decide +kernel
theorem dL_law_1050 : dec mL_law 1050 = .ok (.ireturn, 1) := by decide +kernel
theorem dL_law_1051 : dec mL_law 1051 = .ok (.goto 733, 3) := by decide +kernel
theorem dL_law_1054 : dec mL_law 1054 = .ok (.aload_n 1, 1) := by decide +kernel
theorem dL_law_1055 : dec mL_law 1055 = .ok (.invokevirtual 155, 3) := by decide +kernel
theorem dL_law_1058 : dec mL_law 1058 = .ok (.aload_n 2, 1) := by decide +kernel
theorem dL_law_1059 : dec mL_law 1059 = .ok (.invokevirtual 158, 3) := by decide +kernel
theorem dL_law_1062 : dec mL_law 1062 = .ok (.if_icmp .eq 722, 3) := by decide +kernel
theorem dL_law_1065 : dec mL_law 1065 = .ok (.iconst 0, 1) := by decide +kernel
theorem dL_law_1066 : dec mL_law 1066 = .ok (.ireturn, 1) := by decide +kernel
theorem dL_law_1067 : dec mL_law 1067 = .ok (.aload_n 1, 1) := by decide +kernel
theorem dL_law_1068 : dec mL_law 1068 = .ok (.aload_n 0, 1) := by decide +kernel
theorem dL_law_1069 : dec mL_law 1069 = .ok (.iload 4, 2) := by decide +kernel
theorem dL_law_1071 : dec mL_law 1071 = .ok (.iconst 1, 1) := by decide +kernel
theorem dL_law_1072 : dec mL_law 1072 = .ok (.iadd, 1) := by decide +kernel
theorem dL_law_1073 : dec mL_law 1073 = .ok (.iaload, 1) := by decide +kernel
theorem dL_law_1074 : dec mL_law 1074 = .ok (.aload_n 3, 1) := by decide +kernel
theorem dL_law_1075 : dec mL_law 1075 = .ok (.invokestatic 159, 3) := by decide +kernel
theorem dL_law_1078 : dec mL_law 1078 = .ok (.istore 5, 2) := by decide +kernel
theorem dL_law_1080 : dec mL_law 1080 = .ok (.aload_n 2, 1) := by decide +kernel
theorem dL_law_1081 : dec mL_law 1081 = .ok (.aload_n 0, 1) := by decide +kernel
theorem dL_law_1082 : dec mL_law 1082 = .ok (.iload 4, 2) := by decide +kernel
theorem dL_law_1084 : dec mL_law 1084 = .ok (.iconst 1, 1) := by decide +kernel
theorem dL_law_1085 : dec mL_law 1085 = .ok (.iadd, 1) := by decide +kernel
theorem dL_law_1086 : dec mL_law 1086 = .ok (.iaload, 1) := by decide +kernel
theorem dL_law_1087 : dec mL_law 1087 = .ok (.invokevirtual 161, 3) := by decide +kernel
theorem dL_law_1090 : dec mL_law 1090 = .ok (.istore 6, 2) := by decide +kernel
theorem dL_law_1092 : dec mL_law 1092 = .ok (.aload_n 2, 1) := by decide +kernel
theorem dL_law_1093 : dec mL_law 1093 = .ok (.invokevirtual 104, 3) := by decide +kernel
theorem dL_law_1096 : dec mL_law 1096 = .ok (.iload 5, 2) := by decide +kernel
theorem dL_law_1098 : dec mL_law 1098 = .ok (.if_icmp .eq 5, 3) := by decide +kernel
theorem dL_law_1101 : dec mL_law 1101 = .ok (.iconst 0, 1) := by decide +kernel
theorem dL_law_1102 : dec mL_law 1102 = .ok (.ireturn, 1) := by decide +kernel
theorem dL_law_1103 : dec mL_law 1103 = .ok (.iload 5, 2) := by decide +kernel
theorem dL_law_1105 : dec mL_law 1105 = .ok (.ifCond .ne 15, 3) := by decide +kernel
theorem dL_law_1108 : dec mL_law 1108 = .ok (.aload_n 3, 1) := by decide +kernel
theorem dL_law_1109 : dec mL_law 1109 = .ok (.iconst 0, 1) := by decide +kernel
theorem dL_law_1110 : dec mL_law 1110 = .ok (.laload, 1) := by decide +kernel
theorem dL_law_1111 : dec mL_law 1111 = .ok (.iload 6, 2) := by decide +kernel
theorem dL_law_1113 : dec mL_law 1113 = .ok (.i2l, 1) := by decide +kernel
theorem dL_law_1114 : dec mL_law 1114 = .ok (.lcmp, 1) := by decide +kernel
theorem dL_law_1115 : dec mL_law 1115 = .ok (.ifCond .eq 5, 3) := by decide +kernel
theorem dL_law_1118 : dec mL_law 1118 = .ok (.iconst 0, 1) := by decide +kernel
theorem dL_law_1119 : dec mL_law 1119 = .ok (.ireturn, 1) := by decide +kernel
theorem dL_law_1120 : dec mL_law 1120 = .ok (.goto 664, 3) := by decide +kernel
theorem dL_law_1123 : dec mL_law 1123 = .ok (.aload_n 1, 1) := by decide +kernel
theorem dL_law_1124 : dec mL_law 1124 = .ok (.aload_n 3, 1) := by decide +kernel
theorem dL_law_1125 : dec mL_law 1125 = .ok (.invokestatic 162, 3) := by decide +kernel
theorem dL_law_1128 : dec mL_law 1128 = .ok (.istore 5, 2) := by decide +kernel
theorem dL_law_1130 : dec mL_law 1130 = .ok (.aload_n 2, 1) := by decide +kernel
theorem dL_law_1131 : dec mL_law 1131 = .ok (.invokevirtual 164, 3) := by decide +kernel
theorem dL_law_1134 : dec mL_law 1134 = .ok (.istore 6, 2) := by decide +kernel
theorem dL_law_1136 : dec mL_law 1136 = .ok (.aload_n 2, 1) := by decide +kernel
theorem dL_law_1137 : dec mL_law 1137 = .ok (.invokevirtual 104, 3) := by decide +kernel
theorem dL_law_1140 : dec mL_law 1140 = .ok (.iload 5, 2) := by decide +kernel
theorem dL_law_1142 : dec mL_law 1142 = .ok (.if_icmp .eq 5, 3) := by decide +kernel
theorem dL_law_1145 : dec mL_law 1145 = .ok (.iconst 0, 1) := by decide +kernel
theorem dL_law_1146 : dec mL_law 1146 = .ok (.ireturn, 1) := by decide +kernel
theorem dL_law_1147 : dec mL_law 1147 = .ok (.iload 5, 2) := by decide +kernel
theorem dL_law_1149 : dec mL_law 1149 = .ok (.ifCond .ne 15, 3) := by decide +kernel
theorem dL_law_1152 : dec mL_law 1152 = .ok (.aload_n 3, 1) := by decide +kernel
theorem dL_law_1153 : dec mL_law 1153 = .ok (.iconst 0, 1) := by decide +kernel
theorem dL_law_1154 : dec mL_law 1154 = .ok (.laload, 1) := by decide +kernel
theorem dL_law_1155 : dec mL_law 1155 = .ok (.iload 6, 2) := by decide +kernel
theorem dL_law_1157 : dec mL_law 1157 = .ok (.i2l, 1) := by decide +kernel
theorem dL_law_1158 : dec mL_law 1158 = .ok (.lcmp, 1) := by decide +kernel
theorem dL_law_1159 : dec mL_law 1159 = .ok (.ifCond .eq 5, 3) := by decide +kernel
theorem dL_law_1162 : dec mL_law 1162 = .ok (.iconst 0, 1) := by decide +kernel
theorem dL_law_1163 : dec mL_law 1163 = .ok (.ireturn, 1) := by decide +kernel
theorem dL_law_1164 : dec mL_law 1164 = .ok (.goto 620, 3) := by decide +kernel
theorem dL_law_1167 : dec mL_law 1167 = .ok (.aload_n 1, 1) := by decide +kernel
theorem dL_law_1168 : dec mL_law 1168 = .ok (.aload_n 0, 1) := by decide +kernel
theorem dL_law_1169 : dec mL_law 1169 = .ok (.iload 4, 2) := by decide +kernel
theorem dL_law_1171 : dec mL_law 1171 = .ok (.iconst 1, 1) := by decide +kernel
theorem dL_law_1172 : dec mL_law 1172 = .ok (.iadd, 1) := by decide +kernel
theorem dL_law_1173 : dec mL_law 1173 = .ok (.iaload, 1) := by decide +kernel
theorem dL_law_1174 : dec mL_law 1174 = .ok (.aload_n 3, 1) := by decide +kernel
theorem dL_law_1175 : dec mL_law 1175 = .ok (.invokestatic 165, 3) := by decide +kernel
theorem dL_law_1178 : dec mL_law 1178 = .ok (.istore 5, 2) := by decide +kernel
theorem dL_law_1180 : dec mL_law 1180 = .ok (.aload_n 2, 1) := by decide +kernel
theorem dL_law_1181 : dec mL_law 1181 = .ok (.aload_n 0, 1) := by decide +kernel
theorem dL_law_1182 : dec mL_law 1182 = .ok (.iload 4, 2) := by decide +kernel
theorem dL_law_1184 : dec mL_law 1184 = .ok (.iconst 1, 1) := by decide +kernel
theorem dL_law_1185 : dec mL_law 1185 = .ok (.iadd, 1) := by decide +kernel
theorem dL_law_1186 : dec mL_law 1186 = .ok (.iaload, 1) := by decide +kernel
theorem dL_law_1187 : dec mL_law 1187 = .ok (.invokevirtual 167, 3) := by decide +kernel
theorem dL_law_1190 : dec mL_law 1190 = .ok (.istore 6, 2) := by decide +kernel
theorem dL_law_1192 : dec mL_law 1192 = .ok (.aload_n 2, 1) := by decide +kernel
theorem dL_law_1193 : dec mL_law 1193 = .ok (.invokevirtual 104, 3) := by decide +kernel
theorem dL_law_1196 : dec mL_law 1196 = .ok (.iload 5, 2) := by decide +kernel
theorem dL_law_1198 : dec mL_law 1198 = .ok (.if_icmp .eq 5, 3) := by decide +kernel
theorem dL_law_1201 : dec mL_law 1201 = .ok (.iconst 0, 1) := by decide +kernel
theorem dL_law_1202 : dec mL_law 1202 = .ok (.ireturn, 1) := by decide +kernel
theorem dL_law_1203 : dec mL_law 1203 = .ok (.iload 5, 2) := by decide +kernel
theorem dL_law_1205 : dec mL_law 1205 = .ok (.ifCond .ne 15, 3) := by decide +kernel
theorem dL_law_1208 : dec mL_law 1208 = .ok (.aload_n 3, 1) := by decide +kernel
theorem dL_law_1209 : dec mL_law 1209 = .ok (.iconst 0, 1) := by decide +kernel
theorem dL_law_1210 : dec mL_law 1210 = .ok (.laload, 1) := by decide +kernel
theorem dL_law_1211 : dec mL_law 1211 = .ok (.iload 6, 2) := by decide +kernel
theorem dL_law_1213 : dec mL_law 1213 = .ok (.i2l, 1) := by decide +kernel
theorem dL_law_1214 : dec mL_law 1214 = .ok (.lcmp, 1) := by decide +kernel
theorem dL_law_1215 : dec mL_law 1215 = .ok (.ifCond .eq 5, 3) := by decide +kernel
theorem dL_law_1218 : dec mL_law 1218 = .ok (.iconst 0, 1) := by decide +kernel
theorem dL_law_1219 : dec mL_law 1219 = .ok (.ireturn, 1) := by decide +kernel
theorem dL_law_1220 : dec mL_law 1220 = .ok (.goto 564, 3) := by decide +kernel
theorem dL_law_1223 : dec mL_law 1223 = .ok (.aload_n 1, 1) := by decide +kernel
theorem dL_law_1224 : dec mL_law 1224 = .ok (.aload_n 0, 1) := by decide +kernel
theorem dL_law_1225 : dec mL_law 1225 = .ok (.iload 4, 2) := by decide +kernel
theorem dL_law_1227 : dec mL_law 1227 = .ok (.iconst 1, 1) := by decide +kernel
theorem dL_law_1228 : dec mL_law 1228 = .ok (.iadd, 1) := by decide +kernel
theorem dL_law_1229 : dec mL_law 1229 = .ok (.iaload, 1) := by decide +kernel
theorem dL_law_1230 : dec mL_law 1230 = .ok (.aload_n 3, 1) := by decide +kernel
theorem dL_law_1231 : dec mL_law 1231 = .ok (.invokestatic 168, 3) := by decide +kernel
theorem dL_law_1234 : dec mL_law 1234 = .ok (.istore 5, 2) := by decide +kernel
theorem dL_law_1236 : dec mL_law 1236 = .ok (.aload_n 2, 1) := by decide +kernel
theorem dL_law_1237 : dec mL_law 1237 = .ok (.aload_n 0, 1) := by decide +kernel
theorem dL_law_1238 : dec mL_law 1238 = .ok (.iload 4, 2) := by decide +kernel
theorem dL_law_1240 : dec mL_law 1240 = .ok (.iconst 1, 1) := by decide +kernel
theorem dL_law_1241 : dec mL_law 1241 = .ok (.iadd, 1) := by decide +kernel
theorem dL_law_1242 : dec mL_law 1242 = .ok (.iaload, 1) := by decide +kernel
theorem dL_law_1243 : dec mL_law 1243 = .ok (.invokevirtual 170, 3) := by decide +kernel
theorem dL_law_1246 : dec mL_law 1246 = .ok (.istore 6, 2) := by decide +kernel
theorem dL_law_1248 : dec mL_law 1248 = .ok (.aload_n 2, 1) := by decide +kernel
theorem dL_law_1249 : dec mL_law 1249 = .ok (.invokevirtual 104, 3) := by decide +kernel
theorem dL_law_1252 : dec mL_law 1252 = .ok (.iload 5, 2) := by decide +kernel
theorem dL_law_1254 : dec mL_law 1254 = .ok (.if_icmp .eq 5, 3) := by decide +kernel
theorem dL_law_1257 : dec mL_law 1257 = .ok (.iconst 0, 1) := by decide +kernel
theorem dL_law_1258 : dec mL_law 1258 = .ok (.ireturn, 1) := by decide +kernel
theorem dL_law_1259 : dec mL_law 1259 = .ok (.iload 5, 2) := by decide +kernel
theorem dL_law_1261 : dec mL_law 1261 = .ok (.ifCond .ne 15, 3) := by decide +kernel
theorem dL_law_1264 : dec mL_law 1264 = .ok (.aload_n 3, 1) := by decide +kernel
theorem dL_law_1265 : dec mL_law 1265 = .ok (.iconst 0, 1) := by decide +kernel
theorem dL_law_1266 : dec mL_law 1266 = .ok (.laload, 1) := by decide +kernel
theorem dL_law_1267 : dec mL_law 1267 = .ok (.iload 6, 2) := by decide +kernel
theorem dL_law_1269 : dec mL_law 1269 = .ok (.i2l, 1) := by decide +kernel
theorem dL_law_1270 : dec mL_law 1270 = .ok (.lcmp, 1) := by decide +kernel
theorem dL_law_1271 : dec mL_law 1271 = .ok (.ifCond .eq 5, 3) := by decide +kernel
theorem dL_law_1274 : dec mL_law 1274 = .ok (.iconst 0, 1) := by decide +kernel
theorem dL_law_1275 : dec mL_law 1275 = .ok (.ireturn, 1) := by decide +kernel
theorem dL_law_1276 : dec mL_law 1276 = .ok (.goto 508, 3) := by decide +kernel
theorem dL_law_1279 : dec mL_law 1279 = .ok (.aload_n 1, 1) := by decide +kernel
theorem dL_law_1280 : dec mL_law 1280 = .ok (.aload_n 0, 1) := by decide +kernel
theorem dL_law_1281 : dec mL_law 1281 = .ok (.iload 4, 2) := by decide +kernel
theorem dL_law_1283 : dec mL_law 1283 = .ok (.iconst 1, 1) := by decide +kernel
theorem dL_law_1284 : dec mL_law 1284 = .ok (.iadd, 1) := by decide +kernel
theorem dL_law_1285 : dec mL_law 1285 = .ok (.iaload, 1) := by decide +kernel
theorem dL_law_1286 : dec mL_law 1286 = .ok (.aload_n 0, 1) := by decide +kernel
theorem dL_law_1287 : dec mL_law 1287 = .ok (.iload 4, 2) := by decide +kernel
theorem dL_law_1289 : dec mL_law 1289 = .ok (.iconst 2, 1) := by decide +kernel
theorem dL_law_1290 : dec mL_law 1290 = .ok (.iadd, 1) := by decide +kernel
theorem dL_law_1291 : dec mL_law 1291 = .ok (.iaload, 1) := by decide +kernel
theorem dL_law_1292 : dec mL_law 1292 = .ok (.aload_n 3, 1) := by decide +kernel
theorem dL_law_1293 : dec mL_law 1293 = .ok (.invokestatic 171, 3) := by decide +kernel
theorem dL_law_1296 : dec mL_law 1296 = .ok (.istore 5, 2) := by decide +kernel
theorem dL_law_1298 : dec mL_law 1298 = .ok (.aload_n 2, 1) := by decide +kernel
theorem dL_law_1299 : dec mL_law 1299 = .ok (.aload_n 0, 1) := by decide +kernel
theorem dL_law_1300 : dec mL_law 1300 = .ok (.iload 4, 2) := by decide +kernel
theorem dL_law_1302 : dec mL_law 1302 = .ok (.iconst 1, 1) := by decide +kernel
theorem dL_law_1303 : dec mL_law 1303 = .ok (.iadd, 1) := by decide +kernel
theorem dL_law_1304 : dec mL_law 1304 = .ok (.iaload, 1) := by decide +kernel
theorem dL_law_1305 : dec mL_law 1305 = .ok (.aload_n 0, 1) := by decide +kernel
theorem dL_law_1306 : dec mL_law 1306 = .ok (.iload 4, 2) := by decide +kernel
theorem dL_law_1308 : dec mL_law 1308 = .ok (.iconst 2, 1) := by decide +kernel
theorem dL_law_1309 : dec mL_law 1309 = .ok (.iadd, 1) := by decide +kernel
theorem dL_law_1310 : dec mL_law 1310 = .ok (.iaload, 1) := by decide +kernel
theorem dL_law_1311 : dec mL_law 1311 = .ok (.invokevirtual 173, 3) := by decide +kernel
theorem dL_law_1314 : dec mL_law 1314 = .ok (.istore 6, 2) := by decide +kernel
theorem dL_law_1316 : dec mL_law 1316 = .ok (.aload_n 2, 1) := by decide +kernel
theorem dL_law_1317 : dec mL_law 1317 = .ok (.invokevirtual 104, 3) := by decide +kernel
theorem dL_law_1320 : dec mL_law 1320 = .ok (.iload 5, 2) := by decide +kernel
theorem dL_law_1322 : dec mL_law 1322 = .ok (.if_icmp .eq 5, 3) := by decide +kernel
theorem dL_law_1325 : dec mL_law 1325 = .ok (.iconst 0, 1) := by decide +kernel
theorem dL_law_1326 : dec mL_law 1326 = .ok (.ireturn, 1) := by decide +kernel
theorem dL_law_1327 : dec mL_law 1327 = .ok (.iload 5, 2) := by decide +kernel
theorem dL_law_1329 : dec mL_law 1329 = .ok (.ifCond .ne 15, 3) := by decide +kernel
theorem dL_law_1332 : dec mL_law 1332 = .ok (.aload_n 3, 1) := by decide +kernel
theorem dL_law_1333 : dec mL_law 1333 = .ok (.iconst 0, 1) := by decide +kernel
theorem dL_law_1334 : dec mL_law 1334 = .ok (.laload, 1) := by decide +kernel
theorem dL_law_1335 : dec mL_law 1335 = .ok (.iload 6, 2) := by decide +kernel
theorem dL_law_1337 : dec mL_law 1337 = .ok (.i2l, 1) := by decide +kernel
theorem dL_law_1338 : dec mL_law 1338 = .ok (.lcmp, 1) := by decide +kernel
theorem dL_law_1339 : dec mL_law 1339 = .ok (.ifCond .eq 5, 3) := by decide +kernel
theorem dL_law_1342 : dec mL_law 1342 = .ok (.iconst 0, 1) := by decide +kernel
theorem dL_law_1343 : dec mL_law 1343 = .ok (.ireturn, 1) := by decide +kernel
theorem dL_law_1344 : dec mL_law 1344 = .ok (.goto 440, 3) := by decide +kernel
theorem dL_law_1347 : dec mL_law 1347 = .ok (.aload_n 1, 1) := by decide +kernel
theorem dL_law_1348 : dec mL_law 1348 = .ok (.invokevirtual 174, 3) := by decide +kernel
theorem dL_law_1351 : dec mL_law 1351 = .ok (.aload_n 2, 1) := by decide +kernel
theorem dL_law_1352 : dec mL_law 1352 = .ok (.invokevirtual 177, 3) := by decide +kernel
theorem dL_law_1355 : dec mL_law 1355 = .ok (.if_icmp .eq 429, 3) := by decide +kernel
theorem dL_law_1358 : dec mL_law 1358 = .ok (.iconst 0, 1) := by decide +kernel
theorem dL_law_1359 : dec mL_law 1359 = .ok (.ireturn, 1) := by decide +kernel
theorem dL_law_1360 : dec mL_law 1360 = .ok (.aload_n 1, 1) := by decide +kernel
theorem dL_law_1361 : dec mL_law 1361 = .ok (.aload_n 0, 1) := by decide +kernel
theorem dL_law_1362 : dec mL_law 1362 = .ok (.iload 4, 2) := by decide +kernel
theorem dL_law_1364 : dec mL_law 1364 = .ok (.iconst 1, 1) := by decide +kernel
theorem dL_law_1365 : dec mL_law 1365 = .ok (.iadd, 1) := by decide +kernel
theorem dL_law_1366 : dec mL_law 1366 = .ok (.iaload, 1) := by decide +kernel
theorem dL_law_1367 : dec mL_law 1367 = .ok (.aload_n 3, 1) := by decide +kernel
theorem dL_law_1368 : dec mL_law 1368 = .ok (.invokestatic 178, 3) := by decide +kernel
theorem dL_law_1371 : dec mL_law 1371 = .ok (.istore 5, 2) := by decide +kernel
theorem dL_law_1373 : dec mL_law 1373 = .ok (.aload_n 2, 1) := by decide +kernel
theorem dL_law_1374 : dec mL_law 1374 = .ok (.aload_n 0, 1) := by decide +kernel
theorem dL_law_1375 : dec mL_law 1375 = .ok (.iload 4, 2) := by decide +kernel
theorem dL_law_1377 : dec mL_law 1377 = .ok (.iconst 1, 1) := by decide +kernel
theorem dL_law_1378 : dec mL_law 1378 = .ok (.iadd, 1) := by decide +kernel
theorem dL_law_1379 : dec mL_law 1379 = .ok (.iaload, 1) := by decide +kernel
theorem dL_law_1380 : dec mL_law 1380 = .ok (.invokevirtual 180, 3) := by decide +kernel
theorem dL_law_1383 : dec mL_law 1383 = .ok (.istore 6, 2) := by decide +kernel
theorem dL_law_1385 : dec mL_law 1385 = .ok (.aload_n 2, 1) := by decide +kernel
theorem dL_law_1386 : dec mL_law 1386 = .ok (.invokevirtual 104, 3) := by decide +kernel
theorem dL_law_1389 : dec mL_law 1389 = .ok (.iload 5, 2) := by decide +kernel
theorem dL_law_1391 : dec mL_law 1391 = .ok (.if_icmp .eq 5, 3) := by decide +kernel
theorem dL_law_1394 : dec mL_law 1394 = .ok (.iconst 0, 1) := by decide +kernel
theorem dL_law_1395 : dec mL_law 1395 = .ok (.ireturn, 1) := by decide +kernel
theorem dL_law_1396 : dec mL_law 1396 = .ok (.iload 5, 2) := by decide +kernel
theorem dL_law_1398 : dec mL_law 1398 = .ok (.ifCond .ne 15, 3) := by decide +kernel
theorem dL_law_1401 : dec mL_law 1401 = .ok (.aload_n 3, 1) := by decide +kernel
theorem dL_law_1402 : dec mL_law 1402 = .ok (.iconst 0, 1) := by decide +kernel
theorem dL_law_1403 : dec mL_law 1403 = .ok (.laload, 1) := by decide +kernel
theorem dL_law_1404 : dec mL_law 1404 = .ok (.iload 6, 2) := by decide +kernel
theorem dL_law_1406 : dec mL_law 1406 = .ok (.i2l, 1) := by decide +kernel
theorem dL_law_1407 : dec mL_law 1407 = .ok (.lcmp, 1) := by decide +kernel
theorem dL_law_1408 : dec mL_law 1408 = .ok (.ifCond .eq 5, 3) := by decide +kernel
theorem dL_law_1411 : dec mL_law 1411 = .ok (.iconst 0, 1) := by decide +kernel
theorem dL_law_1412 : dec mL_law 1412 = .ok (.ireturn, 1) := by decide +kernel
theorem dL_law_1413 : dec mL_law 1413 = .ok (.goto 371, 3) := by decide +kernel
theorem dL_law_1416 : dec mL_law 1416 = .ok (.aload_n 1, 1) := by decide +kernel
theorem dL_law_1417 : dec mL_law 1417 = .ok (.aload_n 0, 1) := by decide +kernel
theorem dL_law_1418 : dec mL_law 1418 = .ok (.iload 4, 2) := by decide +kernel
theorem dL_law_1420 : dec mL_law 1420 = .ok (.iconst 1, 1) := by decide +kernel
theorem dL_law_1421 : dec mL_law 1421 = .ok (.iadd, 1) := by decide +kernel
theorem dL_law_1422 : dec mL_law 1422 = .ok (.iaload, 1) := by decide +kernel
theorem dL_law_1423 : dec mL_law 1423 = .ok (.aload_n 3, 1) := by decide +kernel
theorem dL_law_1424 : dec mL_law 1424 = .ok (.invokestatic 181, 3) := by decide +kernel
theorem dL_law_1427 : dec mL_law 1427 = .ok (.istore 5, 2) := by decide +kernel
theorem dL_law_1429 : dec mL_law 1429 = .ok (.aload_n 2, 1) := by decide +kernel
theorem dL_law_1430 : dec mL_law 1430 = .ok (.aload_n 0, 1) := by decide +kernel
theorem dL_law_1431 : dec mL_law 1431 = .ok (.iload 4, 2) := by decide +kernel
theorem dL_law_1433 : dec mL_law 1433 = .ok (.iconst 1, 1) := by decide +kernel
theorem dL_law_1434 : dec mL_law 1434 = .ok (.iadd, 1) := by decide +kernel
theorem dL_law_1435 : dec mL_law 1435 = .ok (.iaload, 1) := by decide +kernel
theorem dL_law_1436 : dec mL_law 1436 = .ok (.invokevirtual 183, 3) := by decide +kernel
theorem dL_law_1439 : dec mL_law 1439 = .ok (.istore 6, 2) := by decide +kernel
theorem dL_law_1441 : dec mL_law 1441 = .ok (.aload_n 2, 1) := by decide +kernel
theorem dL_law_1442 : dec mL_law 1442 = .ok (.invokevirtual 104, 3) := by decide +kernel
theorem dL_law_1445 : dec mL_law 1445 = .ok (.iload 5, 2) := by decide +kernel
theorem dL_law_1447 : dec mL_law 1447 = .ok (.if_icmp .eq 5, 3) := by decide +kernel
theorem dL_law_1450 : dec mL_law 1450 = .ok (.iconst 0, 1) := by decide +kernel
theorem dL_law_1451 : dec mL_law 1451 = .ok (.ireturn, 1) := by decide +kernel
theorem dL_law_1452 : dec mL_law 1452 = .ok (.iload 5, 2) := by decide +kernel
theorem dL_law_1454 : dec mL_law 1454 = .ok (.ifCond .ne 15, 3) := by decide +kernel
theorem dL_law_1457 : dec mL_law 1457 = .ok (.aload_n 3, 1) := by decide +kernel
theorem dL_law_1458 : dec mL_law 1458 = .ok (.iconst 0, 1) := by decide +kernel
theorem dL_law_1459 : dec mL_law 1459 = .ok (.laload, 1) := by decide +kernel
theorem dL_law_1460 : dec mL_law 1460 = .ok (.iload 6, 2) := by decide +kernel
theorem dL_law_1462 : dec mL_law 1462 = .ok (.i2l, 1) := by decide +kernel
theorem dL_law_1463 : dec mL_law 1463 = .ok (.lcmp, 1) := by decide +kernel
theorem dL_law_1464 : dec mL_law 1464 = .ok (.ifCond .eq 5, 3) := by decide +kernel
theorem dL_law_1467 : dec mL_law 1467 = .ok (.iconst 0, 1) := by decide +kernel
theorem dL_law_1468 : dec mL_law 1468 = .ok (.ireturn, 1) := by decide +kernel
theorem dL_law_1469 : dec mL_law 1469 = .ok (.goto 315, 3) := by decide +kernel
theorem dL_law_1472 : dec mL_law 1472 = .ok (.aload_n 1, 1) := by decide +kernel
theorem dL_law_1473 : dec mL_law 1473 = .ok (.aload_n 0, 1) := by decide +kernel
theorem dL_law_1474 : dec mL_law 1474 = .ok (.iload 4, 2) := by decide +kernel
theorem dL_law_1476 : dec mL_law 1476 = .ok (.iconst 1, 1) := by decide +kernel
theorem dL_law_1477 : dec mL_law 1477 = .ok (.iadd, 1) := by decide +kernel
theorem dL_law_1478 : dec mL_law 1478 = .ok (.iaload, 1) := by decide +kernel
theorem dL_law_1479 : dec mL_law 1479 = .ok (.aload_n 0, 1) := by decide +kernel
theorem dL_law_1480 : dec mL_law 1480 = .ok (.iload 4, 2) := by decide +kernel
theorem dL_law_1482 : dec mL_law 1482 = .ok (.iconst 2, 1) := by decide +kernel
theorem dL_law_1483 : dec mL_law 1483 = .ok (.iadd, 1) := by decide +kernel
theorem dL_law_1484 : dec mL_law 1484 = .ok (.iaload, 1) := by decide +kernel
theorem dL_law_1485 : dec mL_law 1485 = .ok (.i2l, 1) := by decide +kernel
theorem dL_law_1486 : dec mL_law 1486 = .ok (.bipush 32, 2) := by decide +kernel
theorem dL_law_1488 : dec mL_law 1488 = .ok (.lshl, 1) := by decide +kernel
theorem dL_law_1489 : dec mL_law 1489 = .ok (.aload_n 0, 1) := by decide +kernel
theorem dL_law_1490 : dec mL_law 1490 = .ok (.iload 4, 2) := by decide +kernel
theorem dL_law_1492 : dec mL_law 1492 = .ok (.iconst 3, 1) := by decide +kernel
theorem dL_law_1493 : dec mL_law 1493 = .ok (.iadd, 1) := by decide +kernel
theorem dL_law_1494 : dec mL_law 1494 = .ok (.iaload, 1) := by decide +kernel
theorem dL_law_1495 : dec mL_law 1495 = .ok (.i2l, 1) := by decide +kernel
theorem dL_law_1496 : dec mL_law 1496 = .ok (.ldc2_w 184, 3) := by decide +kernel
theorem dL_law_1499 : dec mL_law 1499 = .ok (.land, 1) := by decide +kernel
theorem dL_law_1500 : dec mL_law 1500 = .ok (.lor, 1) := by decide +kernel
theorem dL_law_1501 : dec mL_law 1501 = .ok (.aload_n 3, 1) := by decide +kernel
theorem dL_law_1502 : dec mL_law 1502 = .ok (.invokestatic 186, 3) := by decide +kernel
theorem dL_law_1505 : dec mL_law 1505 = .ok (.istore 5, 2) := by decide +kernel
theorem dL_law_1507 : dec mL_law 1507 = .ok (.aload_n 2, 1) := by decide +kernel
theorem dL_law_1508 : dec mL_law 1508 = .ok (.aload_n 0, 1) := by decide +kernel
theorem dL_law_1509 : dec mL_law 1509 = .ok (.iload 4, 2) := by decide +kernel
theorem dL_law_1511 : dec mL_law 1511 = .ok (.iconst 1, 1) := by decide +kernel
theorem dL_law_1512 : dec mL_law 1512 = .ok (.iadd, 1) := by decide +kernel
theorem dL_law_1513 : dec mL_law 1513 = .ok (.iaload, 1) := by decide +kernel
theorem dL_law_1514 : dec mL_law 1514 = .ok (.aload_n 0, 1) := by decide +kernel
theorem dL_law_1515 : dec mL_law 1515 = .ok (.iload 4, 2) := by decide +kernel
theorem dL_law_1517 : dec mL_law 1517 = .ok (.iconst 2, 1) := by decide +kernel
theorem dL_law_1518 : dec mL_law 1518 = .ok (.iadd, 1) := by decide +kernel
theorem dL_law_1519 : dec mL_law 1519 = .ok (.iaload, 1) := by decide +kernel
theorem dL_law_1520 : dec mL_law 1520 = .ok (.i2l, 1) := by decide +kernel
theorem dL_law_1521 : dec mL_law 1521 = .ok (.bipush 32, 2) := by decide +kernel
theorem dL_law_1523 : dec mL_law 1523 = .ok (.lshl, 1) := by decide +kernel
theorem dL_law_1524 : dec mL_law 1524 = .ok (.aload_n 0, 1) := by decide +kernel
theorem dL_law_1525 : dec mL_law 1525 = .ok (.iload 4, 2) := by decide +kernel
theorem dL_law_1527 : dec mL_law 1527 = .ok (.iconst 3, 1) := by decide +kernel
theorem dL_law_1528 : dec mL_law 1528 = .ok (.iadd, 1) := by decide +kernel
theorem dL_law_1529 : dec mL_law 1529 = .ok (.iaload, 1) := by decide +kernel
theorem dL_law_1530 : dec mL_law 1530 = .ok (.i2l, 1) := by decide +kernel
theorem dL_law_1531 : dec mL_law 1531 = .ok (.ldc2_w 184, 3) := by decide +kernel
theorem dL_law_1534 : dec mL_law 1534 = .ok (.land, 1) := by decide +kernel
theorem dL_law_1535 : dec mL_law 1535 = .ok (.lor, 1) := by decide +kernel
theorem dL_law_1536 : dec mL_law 1536 = .ok (.invokevirtual 189, 3) := by decide +kernel
theorem dL_law_1539 : dec mL_law 1539 = .ok (.istore 6, 2) := by decide +kernel
theorem dL_law_1541 : dec mL_law 1541 = .ok (.aload_n 2, 1) := by decide +kernel
theorem dL_law_1542 : dec mL_law 1542 = .ok (.invokevirtual 104, 3) := by decide +kernel
theorem dL_law_1545 : dec mL_law 1545 = .ok (.iload 5, 2) := by decide +kernel
theorem dL_law_1547 : dec mL_law 1547 = .ok (.if_icmp .eq 5, 3) := by decide +kernel
theorem dL_law_1550 : dec mL_law 1550 = .ok (.iconst 0, 1) := by decide +kernel
theorem dL_law_1551 : dec mL_law 1551 = .ok (.ireturn, 1) := by decide +kernel
theorem dL_law_1552 : dec mL_law 1552 = .ok (.iload 5, 2) := by decide +kernel
theorem dL_law_1554 : dec mL_law 1554 = .ok (.ifCond .ne 15, 3) := by decide +kernel
theorem dL_law_1557 : dec mL_law 1557 = .ok (.aload_n 3, 1) := by decide +kernel
theorem dL_law_1558 : dec mL_law 1558 = .ok (.iconst 0, 1) := by decide +kernel
theorem dL_law_1559 : dec mL_law 1559 = .ok (.laload, 1) := by decide +kernel
theorem dL_law_1560 : dec mL_law 1560 = .ok (.iload 6, 2) := by decide +kernel
theorem dL_law_1562 : dec mL_law 1562 = .ok (.i2l, 1) := by decide +kernel
theorem dL_law_1563 : dec mL_law 1563 = .ok (.lcmp, 1) := by decide +kernel
theorem dL_law_1564 : dec mL_law 1564 = .ok (.ifCond .eq 5, 3) := by decide +kernel
theorem dL_law_1567 : dec mL_law 1567 = .ok (.iconst 0, 1) := by decide +kernel
theorem dL_law_1568 : dec mL_law 1568 = .ok (.ireturn, 1) := by decide +kernel
theorem dL_law_1569 : dec mL_law 1569 = .ok (.goto 215, 3) := by decide +kernel
theorem dL_law_1572 : dec mL_law 1572 = .ok (.aload_n 1, 1) := by decide +kernel
theorem dL_law_1573 : dec mL_law 1573 = .ok (.aload_n 0, 1) := by decide +kernel
theorem dL_law_1574 : dec mL_law 1574 = .ok (.iload 4, 2) := by decide +kernel
theorem dL_law_1576 : dec mL_law 1576 = .ok (.iconst 1, 1) := by decide +kernel
theorem dL_law_1577 : dec mL_law 1577 = .ok (.iadd, 1) := by decide +kernel
theorem dL_law_1578 : dec mL_law 1578 = .ok (.iaload, 1) := by decide +kernel
theorem dL_law_1579 : dec mL_law 1579 = .ok (.i2l, 1) := by decide +kernel
theorem dL_law_1580 : dec mL_law 1580 = .ok (.bipush 32, 2) := by decide +kernel
theorem dL_law_1582 : dec mL_law 1582 = .ok (.lshl, 1) := by decide +kernel
theorem dL_law_1583 : dec mL_law 1583 = .ok (.aload_n 0, 1) := by decide +kernel
theorem dL_law_1584 : dec mL_law 1584 = .ok (.iload 4, 2) := by decide +kernel
theorem dL_law_1586 : dec mL_law 1586 = .ok (.iconst 2, 1) := by decide +kernel
theorem dL_law_1587 : dec mL_law 1587 = .ok (.iadd, 1) := by decide +kernel
theorem dL_law_1588 : dec mL_law 1588 = .ok (.iaload, 1) := by decide +kernel
theorem dL_law_1589 : dec mL_law 1589 = .ok (.i2l, 1) := by decide +kernel
theorem dL_law_1590 : dec mL_law 1590 = .ok (.ldc2_w 184, 3) := by decide +kernel
theorem dL_law_1593 : dec mL_law 1593 = .ok (.land, 1) := by decide +kernel
theorem dL_law_1594 : dec mL_law 1594 = .ok (.lor, 1) := by decide +kernel
theorem dL_law_1595 : dec mL_law 1595 = .ok (.aload_n 0, 1) := by decide +kernel
theorem dL_law_1596 : dec mL_law 1596 = .ok (.iload 4, 2) := by decide +kernel
theorem dL_law_1598 : dec mL_law 1598 = .ok (.iconst 3, 1) := by decide +kernel
theorem dL_law_1599 : dec mL_law 1599 = .ok (.iadd, 1) := by decide +kernel
theorem dL_law_1600 : dec mL_law 1600 = .ok (.iaload, 1) := by decide +kernel
theorem dL_law_1601 : dec mL_law 1601 = .ok (.aload_n 3, 1) := by decide +kernel
theorem dL_law_1602 : dec mL_law 1602 = .ok (.invokestatic 190, 3) := by decide +kernel
theorem dL_law_1605 : dec mL_law 1605 = .ok (.istore 5, 2) := by decide +kernel
theorem dL_law_1607 : dec mL_law 1607 = .ok (.aload_n 2, 1) := by decide +kernel
theorem dL_law_1608 : dec mL_law 1608 = .ok (.aload_n 0, 1) := by decide +kernel
theorem dL_law_1609 : dec mL_law 1609 = .ok (.iload 4, 2) := by decide +kernel
theorem dL_law_1611 : dec mL_law 1611 = .ok (.iconst 1, 1) := by decide +kernel
theorem dL_law_1612 : dec mL_law 1612 = .ok (.iadd, 1) := by decide +kernel
theorem dL_law_1613 : dec mL_law 1613 = .ok (.iaload, 1) := by decide +kernel
theorem dL_law_1614 : dec mL_law 1614 = .ok (.i2l, 1) := by decide +kernel
theorem dL_law_1615 : dec mL_law 1615 = .ok (.bipush 32, 2) := by decide +kernel
theorem dL_law_1617 : dec mL_law 1617 = .ok (.lshl, 1) := by decide +kernel
theorem dL_law_1618 : dec mL_law 1618 = .ok (.aload_n 0, 1) := by decide +kernel
theorem dL_law_1619 : dec mL_law 1619 = .ok (.iload 4, 2) := by decide +kernel
theorem dL_law_1621 : dec mL_law 1621 = .ok (.iconst 2, 1) := by decide +kernel
theorem dL_law_1622 : dec mL_law 1622 = .ok (.iadd, 1) := by decide +kernel
theorem dL_law_1623 : dec mL_law 1623 = .ok (.iaload, 1) := by decide +kernel
theorem dL_law_1624 : dec mL_law 1624 = .ok (.i2l, 1) := by decide +kernel
theorem dL_law_1625 : dec mL_law 1625 = .ok (.ldc2_w 184, 3) := by decide +kernel
theorem dL_law_1628 : dec mL_law 1628 = .ok (.land, 1) := by decide +kernel
theorem dL_law_1629 : dec mL_law 1629 = .ok (.lor, 1) := by decide +kernel
theorem dL_law_1630 : dec mL_law 1630 = .ok (.aload_n 0, 1) := by decide +kernel
theorem dL_law_1631 : dec mL_law 1631 = .ok (.iload 4, 2) := by decide +kernel
theorem dL_law_1633 : dec mL_law 1633 = .ok (.iconst 3, 1) := by decide +kernel
theorem dL_law_1634 : dec mL_law 1634 = .ok (.iadd, 1) := by decide +kernel
theorem dL_law_1635 : dec mL_law 1635 = .ok (.iaload, 1) := by decide +kernel
theorem dL_law_1636 : dec mL_law 1636 = .ok (.invokevirtual 193, 3) := by decide +kernel
theorem dL_law_1639 : dec mL_law 1639 = .ok (.istore 6, 2) := by decide +kernel
theorem dL_law_1641 : dec mL_law 1641 = .ok (.aload_n 2, 1) := by decide +kernel
theorem dL_law_1642 : dec mL_law 1642 = .ok (.invokevirtual 104, 3) := by decide +kernel
theorem dL_law_1645 : dec mL_law 1645 = .ok (.iload 5, 2) := by decide +kernel
theorem dL_law_1647 : dec mL_law 1647 = .ok (.if_icmp .eq 5, 3) := by decide +kernel
theorem dL_law_1650 : dec mL_law 1650 = .ok (.iconst 0, 1) := by decide +kernel
theorem dL_law_1651 : dec mL_law 1651 = .ok (.ireturn, 1) := by decide +kernel
theorem dL_law_1652 : dec mL_law 1652 = .ok (.iload 5, 2) := by decide +kernel
theorem dL_law_1654 : dec mL_law 1654 = .ok (.ifCond .ne 15, 3) := by decide +kernel
theorem dL_law_1657 : dec mL_law 1657 = .ok (.aload_n 3, 1) := by decide +kernel
theorem dL_law_1658 : dec mL_law 1658 = .ok (.iconst 0, 1) := by decide +kernel
theorem dL_law_1659 : dec mL_law 1659 = .ok (.laload, 1) := by decide +kernel
theorem dL_law_1660 : dec mL_law 1660 = .ok (.iload 6, 2) := by decide +kernel
theorem dL_law_1662 : dec mL_law 1662 = .ok (.i2l, 1) := by decide +kernel
theorem dL_law_1663 : dec mL_law 1663 = .ok (.lcmp, 1) := by decide +kernel
theorem dL_law_1664 : dec mL_law 1664 = .ok (.ifCond .eq 5, 3) := by decide +kernel
theorem dL_law_1667 : dec mL_law 1667 = .ok (.iconst 0, 1) := by decide +kernel
theorem dL_law_1668 : dec mL_law 1668 = .ok (.ireturn, 1) := by decide +kernel
theorem dL_law_1669 : dec mL_law 1669 = .ok (.goto 115, 3) := by decide +kernel
theorem dL_law_1672 : dec mL_law 1672 = .ok (.aload_n 1, 1) := by decide +kernel
theorem dL_law_1673 : dec mL_law 1673 = .ok (.aload_n 0, 1) := by decide +kernel
theorem dL_law_1674 : dec mL_law 1674 = .ok (.iload 4, 2) := by decide +kernel
theorem dL_law_1676 : dec mL_law 1676 = .ok (.iconst 1, 1) := by decide +kernel
theorem dL_law_1677 : dec mL_law 1677 = .ok (.iadd, 1) := by decide +kernel
theorem dL_law_1678 : dec mL_law 1678 = .ok (.iaload, 1) := by decide +kernel
theorem dL_law_1679 : dec mL_law 1679 = .ok (.aload_n 3, 1) := by decide +kernel
theorem dL_law_1680 : dec mL_law 1680 = .ok (.invokestatic 194, 3) := by decide +kernel
theorem dL_law_1683 : dec mL_law 1683 = .ok (.istore 5, 2) := by decide +kernel
theorem dL_law_1685 : dec mL_law 1685 = .ok (.aload_n 2, 1) := by decide +kernel
theorem dL_law_1686 : dec mL_law 1686 = .ok (.aload_n 0, 1) := by decide +kernel
theorem dL_law_1687 : dec mL_law 1687 = .ok (.iload 4, 2) := by decide +kernel
theorem dL_law_1689 : dec mL_law 1689 = .ok (.iconst 1, 1) := by decide +kernel
theorem dL_law_1690 : dec mL_law 1690 = .ok (.iadd, 1) := by decide +kernel
theorem dL_law_1691 : dec mL_law 1691 = .ok (.iaload, 1) := by decide +kernel
theorem dL_law_1692 : dec mL_law 1692 = .ok (.invokevirtual 196, 3) := by decide +kernel
theorem dL_law_1695 : dec mL_law 1695 = .ok (.istore 6, 2) := by decide +kernel
theorem dL_law_1697 : dec mL_law 1697 = .ok (.aload_n 2, 1) := by decide +kernel
theorem dL_law_1698 : dec mL_law 1698 = .ok (.invokevirtual 104, 3) := by decide +kernel
theorem dL_law_1701 : dec mL_law 1701 = .ok (.iload 5, 2) := by decide +kernel
theorem dL_law_1703 : dec mL_law 1703 = .ok (.if_icmp .eq 5, 3) := by decide +kernel
theorem dL_law_1706 : dec mL_law 1706 = .ok (.iconst 0, 1) := by decide +kernel
theorem dL_law_1707 : dec mL_law 1707 = .ok (.ireturn, 1) := by decide +kernel
theorem dL_law_1708 : dec mL_law 1708 = .ok (.iload 5, 2) := by decide +kernel
theorem dL_law_1710 : dec mL_law 1710 = .ok (.ifCond .ne 15, 3) := by decide +kernel
theorem dL_law_1713 : dec mL_law 1713 = .ok (.aload_n 3, 1) := by decide +kernel
theorem dL_law_1714 : dec mL_law 1714 = .ok (.iconst 0, 1) := by decide +kernel
theorem dL_law_1715 : dec mL_law 1715 = .ok (.laload, 1) := by decide +kernel
theorem dL_law_1716 : dec mL_law 1716 = .ok (.iload 6, 2) := by decide +kernel
theorem dL_law_1718 : dec mL_law 1718 = .ok (.i2l, 1) := by decide +kernel
theorem dL_law_1719 : dec mL_law 1719 = .ok (.lcmp, 1) := by decide +kernel
theorem dL_law_1720 : dec mL_law 1720 = .ok (.ifCond .eq 5, 3) := by decide +kernel
theorem dL_law_1723 : dec mL_law 1723 = .ok (.iconst 0, 1) := by decide +kernel
theorem dL_law_1724 : dec mL_law 1724 = .ok (.ireturn, 1) := by decide +kernel
theorem dL_law_1725 : dec mL_law 1725 = .ok (.goto 59, 3) := by decide +kernel
theorem dL_law_1728 : dec mL_law 1728 = .ok (.aload_n 1, 1) := by decide +kernel
theorem dL_law_1729 : dec mL_law 1729 = .ok (.aload_n 0, 1) := by decide +kernel
theorem dL_law_1730 : dec mL_law 1730 = .ok (.iload 4, 2) := by decide +kernel
theorem dL_law_1732 : dec mL_law 1732 = .ok (.iconst 1, 1) := by decide +kernel
theorem dL_law_1733 : dec mL_law 1733 = .ok (.iadd, 1) := by decide +kernel
theorem dL_law_1734 : dec mL_law 1734 = .ok (.iaload, 1) := by decide +kernel
theorem dL_law_1735 : dec mL_law 1735 = .ok (.aload_n 3, 1) := by decide +kernel
theorem dL_law_1736 : dec mL_law 1736 = .ok (.invokestatic 197, 3) := by decide +kernel
theorem dL_law_1739 : dec mL_law 1739 = .ok (.istore 5, 2) := by decide +kernel
theorem dL_law_1741 : dec mL_law 1741 = .ok (.aload_n 2, 1) := by decide +kernel
theorem dL_law_1742 : dec mL_law 1742 = .ok (.aload_n 0, 1) := by decide +kernel
theorem dL_law_1743 : dec mL_law 1743 = .ok (.iload 4, 2) := by decide +kernel
theorem dL_law_1745 : dec mL_law 1745 = .ok (.iconst 1, 1) := by decide +kernel
theorem dL_law_1746 : dec mL_law 1746 = .ok (.iadd, 1) := by decide +kernel
theorem dL_law_1747 : dec mL_law 1747 = .ok (.iaload, 1) := by decide +kernel
theorem dL_law_1748 : dec mL_law 1748 = .ok (.invokevirtual 199, 3) := by decide +kernel
theorem dL_law_1751 : dec mL_law 1751 = .ok (.istore 6, 2) := by decide +kernel
theorem dL_law_1753 : dec mL_law 1753 = .ok (.aload_n 2, 1) := by decide +kernel
theorem dL_law_1754 : dec mL_law 1754 = .ok (.invokevirtual 104, 3) := by decide +kernel
theorem dL_law_1757 : dec mL_law 1757 = .ok (.iload 5, 2) := by decide +kernel
theorem dL_law_1759 : dec mL_law 1759 = .ok (.if_icmp .eq 5, 3) := by decide +kernel
theorem dL_law_1762 : dec mL_law 1762 = .ok (.iconst 0, 1) := by decide +kernel
theorem dL_law_1763 : dec mL_law 1763 = .ok (.ireturn, 1) := by decide +kernel
theorem dL_law_1764 : dec mL_law 1764 = .ok (.iload 5, 2) := by decide +kernel
theorem dL_law_1766 : dec mL_law 1766 = .ok (.ifCond .ne 15, 3) := by decide +kernel
theorem dL_law_1769 : dec mL_law 1769 = .ok (.aload_n 3, 1) := by decide +kernel
theorem dL_law_1770 : dec mL_law 1770 = .ok (.iconst 0, 1) := by decide +kernel
theorem dL_law_1771 : dec mL_law 1771 = .ok (.laload, 1) := by decide +kernel
theorem dL_law_1772 : dec mL_law 1772 = .ok (.iload 6, 2) := by decide +kernel
theorem dL_law_1774 : dec mL_law 1774 = .ok (.i2l, 1) := by decide +kernel
theorem dL_law_1775 : dec mL_law 1775 = .ok (.lcmp, 1) := by decide +kernel
theorem dL_law_1776 : dec mL_law 1776 = .ok (.ifCond .eq 5, 3) := by decide +kernel
theorem dL_law_1779 : dec mL_law 1779 = .ok (.iconst 0, 1) := by decide +kernel
theorem dL_law_1780 : dec mL_law 1780 = .ok (.ireturn, 1) := by decide +kernel
theorem dL_law_1781 : dec mL_law 1781 = .ok (.goto 3, 3) := by decide +kernel
theorem dL_law_1784 : dec mL_law 1784 = .ok (.iinc 4 4, 3) := by decide +kernel
theorem dL_law_1787 : dec mL_law 1787 = .ok (.goto (-1764), 3) := by decide +kernel
theorem dL_law_1790 : dec mL_law 1790 = .ok (.iconst 1, 1) := by decide +kernel
theorem dL_law_1791 : dec mL_law 1791 = .ok (.ireturn, 1) := by decide +kernel
end
