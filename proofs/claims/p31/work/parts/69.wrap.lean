/-! the law's small methods: each calls one method of the class, and tells its exceptions by numbers -/
def cIX : Int32 := -9999001
def cAR : Int32 := -9999002
def cST : Int32 := -9999003
/-- what is told of a call -/
def vA (es : List Int32) (r : RA) : Int32 := if r.1 = 0 then r.2.1 else es.getD (r.1 - 1) 0
def tV (M : Mem) (v : Int32) (w' : WS) : TG := tP (some (.int v)) (fun Mf => FACE Mf w' ∧ ∀ i, 164 ≤ i → Mf i = M i)
theorem tV_x {M M1 : Mem} {r : RA} {es : List Int32} {k : Nat} {v : Int32} (hk : r.1 = k + 1) (hv : es.getD k 0 = v) (h1 : FACE M1 r.2.2) (h2 : ∀ i, 164 ≤ i → M1 i = M i) : tV M (vA es r) r.2.2 (.inl (some (.int v))) M1 := ⟨by unfold vA; rw [hk, if_neg (by omega), Nat.add_sub_cancel, hv], h1, h2⟩
theorem tV_o {M M1 : Mem} {r : RA} {es : List Int32} (hk : r.1 = 0) (h1 : FACE M1 r.2.2) (h2 : ∀ i, 164 ≤ i → M1 i = M i) : tV M (vA es r) r.2.2 (.inl (some (.int r.2.1))) M1 := ⟨by unfold vA; rw [if_pos hk], h1, h2⟩
section WRAP
variable {M : Mem} {w : WS}
theorem sL_holds (hF : FACE M w) (hO : WOK w) {x : Int32} {v : Bool} : SpecW mL_holds [(0, 6, 7, 13)] 9 1 6 [.ref 0, .int x, .int (bI v)] M (tV M (vA [cIX] (A_hold x v w)) (A_hold x v w).2.2) := by
  refine SpecW_of [some (.ref 0), some (.int x), some (.int (bI v)), none] (by decide) (Nat.le_of_ble_eq_true rfl) rfl ?_
  have h0 : M 0 = some (cO 6 [.ref 1, .ref 23, .ref 45, .ref 145, .ref 162]) := hF.1
  refine r_aload0 (pc := 0) dL_holds_0 ?_
  refine r_iload1 (pc := 1) dL_holds_1 ?_
  refine r_iload2 (pc := 2) dL_holds_2 ?_
  refine G_callX (pc := 3) (as := [.int x, .int (bI v)]) (rest := []) rfl rfl lk_L_7 dL_holds_3 h0 (s7_hold hF hO) (by decide) rfl (by decide) (by decide) (fun r1 M1 h1 => ?_) (fun E M1 h1 => ?_)
  · obtain ⟨k1, k2, k3, k4⟩ := h1
    subst k4
    exact p_ireturnW (pc := 6) rfl rfl rfl dL_holds_6 (by decide) (by decide) rfl (tV_o k3 k1 k2)
  · obtain ⟨k1, k2, k, k3, k4⟩ := h1
    match k, k3, k4 with
    | 0, k3, k4 =>
      cases k4
      refine ⟨7, 3, 8, ⟨[], (0, 6, 7, 13), [], rfl, rfl, by decide, by decide, (tG 701 (by decide +kernel) (by decide +kernel)), by decide +kernel, (fun z hz => by cases hz)⟩, Or.inl ⟨3, dL_holds_7, rfl, rfl⟩, by decide, fun j hj => by have h9 : j = 2 := (by omega); subst h9; rfl, ?_⟩
      refine r_ldc (v := -9999001) (pc := 8) (tG 734 (by decide +kernel) (by decide +kernel)) dL_holds_8 ?_
      exact p_ireturnW (pc := 10) rfl rfl rfl dL_holds_10 (by decide) (by decide) rfl (tV_x k3 rfl k1 k2)
    | k + 1, k3, k4 => cases k4
theorem sL_doScript (hF : FACE M w) (hO : WOK w) {x : Int32} {s : Int64} : SpecW mL_doScript [(0, 6, 7, 20)] 9 1 6 [.ref 0, .int x, .long s] M (tV M (vA [cAR] (A_runScript x s w)) (A_runScript x s w).2.2) := by
  refine SpecW_of [some (.ref 0), some (.int x), some (.long s), none, none] (by decide) (Nat.le_of_ble_eq_true rfl) rfl ?_
  have h0 : M 0 = some (cO 6 [.ref 1, .ref 23, .ref 45, .ref 145, .ref 162]) := hF.1
  refine r_aload0 (pc := 0) dL_doScript_0 ?_
  refine r_iload1 (pc := 1) dL_doScript_1 ?_
  refine r_lload2 (pc := 2) dL_doScript_2 ?_
  refine G_callX (pc := 3) (as := [.int x, .long s]) (rest := []) rfl rfl lk_L_16 dL_doScript_3 h0 (s7_runScript hF hO) (by decide) rfl (by decide) (by decide) (fun r1 M1 h1 => ?_) (fun E M1 h1 => ?_)
  · obtain ⟨k1, k2, k3, k4⟩ := h1
    subst k4
    exact p_ireturnW (pc := 6) rfl rfl rfl dL_doScript_6 (by decide) (by decide) rfl (tV_o k3 k1 k2)
  · obtain ⟨k1, k2, k, k3, k4⟩ := h1
    match k, k3, k4 with
    | 0, k3, k4 =>
      cases k4
      refine ⟨7, 4, 9, ⟨[], (0, 6, 7, 20), [], rfl, rfl, by decide, by decide, (tG 312 (by decide +kernel) (by decide +kernel)), by decide +kernel, (fun z hz => by cases hz)⟩, Or.inr ⟨dL_doScript_7, rfl⟩, by decide, fun j hj => by have h9 : j = 3 := (by omega); subst h9; rfl, ?_⟩
      refine r_ldc (v := -9999002) (pc := 9) (tG 410 (by decide +kernel) (by decide +kernel)) dL_doScript_9 ?_
      exact p_ireturnW (pc := 11) rfl rfl rfl dL_doScript_11 (by decide) (by decide) rfl (tV_x k3 rfl k1 k2)
    | k + 1, k3, k4 => cases k4
theorem sL_doSimulate (hF : FACE M w) (hO : WOK w) {s : Int64} {x : Int32} : SpecW mL_doSimulate [(0, 6, 7, 20)] 9 1 6 [.ref 0, .long s, .int x] M (tV M (vA [cAR] (A_simulate s x w)) (A_simulate s x w).2.2) := by
  refine SpecW_of [some (.ref 0), some (.long s), none, some (.int x), none] (by decide) (Nat.le_of_ble_eq_true rfl) rfl ?_
  have h0 : M 0 = some (cO 6 [.ref 1, .ref 23, .ref 45, .ref 145, .ref 162]) := hF.1
  refine r_aload0 (pc := 0) dL_doSimulate_0 ?_
  refine r_lload1 (pc := 1) dL_doSimulate_1 ?_
  refine r_iload3 (pc := 2) dL_doSimulate_2 ?_
  refine G_callX (pc := 3) (as := [.long s, .int x]) (rest := []) rfl rfl lk_L_23 dL_doSimulate_3 h0 (s7_simulate hF hO) (by decide) rfl (by decide) (by decide) (fun r1 M1 h1 => ?_) (fun E M1 h1 => ?_)
  · obtain ⟨k1, k2, k3, k4⟩ := h1
    subst k4
    exact p_ireturnW (pc := 6) rfl rfl rfl dL_doSimulate_6 (by decide) (by decide) rfl (tV_o k3 k1 k2)
  · obtain ⟨k1, k2, k, k3, k4⟩ := h1
    match k, k3, k4 with
    | 0, k3, k4 =>
      cases k4
      refine ⟨7, 4, 9, ⟨[], (0, 6, 7, 20), [], rfl, rfl, by decide, by decide, (tG 312 (by decide +kernel) (by decide +kernel)), by decide +kernel, (fun z hz => by cases hz)⟩, Or.inr ⟨dL_doSimulate_7, rfl⟩, by decide, fun j hj => by have h9 : j = 3 := (by omega); subst h9; rfl, ?_⟩
      refine r_ldc (v := -9999002) (pc := 9) (tG 410 (by decide +kernel) (by decide +kernel)) dL_doSimulate_9 ?_
      exact p_ireturnW (pc := 11) rfl rfl rfl dL_doSimulate_11 (by decide) (by decide) rfl (tV_x k3 rfl k1 k2)
    | k + 1, k3, k4 => cases k4
theorem sL_tryAppend (hF : FACE M w) (hO : WOK w) {x : Int32} : SpecW mL_tryAppend [(0, 5, 6, 20), (0, 5, 10, 31)] 9 1 6 [.ref 0, .int x] M (tV M (vA [cAR, cST] (A_append x w)) (A_append x w).2.2) := by
  refine SpecW_of [some (.ref 0), some (.int x), none] (by decide) (Nat.le_of_ble_eq_true rfl) rfl ?_
  have h0 : M 0 = some (cO 6 [.ref 1, .ref 23, .ref 45, .ref 145, .ref 162]) := hF.1
  refine r_aload0 (pc := 0) dL_tryAppend_0 ?_
  refine r_iload1 (pc := 1) dL_tryAppend_1 ?_
  refine G_callX (pc := 2) (as := [.int x]) (rest := []) rfl rfl lk_L_27 dL_tryAppend_2 h0 (s7_append hF hO) (by decide) rfl (by decide) (by decide) (fun r1 M1 h1 => ?_) (fun E M1 h1 => ?_)
  · obtain ⟨k1, k2, k3, k4⟩ := h1
    subst k4
    exact p_ireturnW (pc := 5) rfl rfl rfl dL_tryAppend_5 (by decide) (by decide) rfl (tV_o k3 k1 k2)
  · obtain ⟨k1, k2, k, k3, k4⟩ := h1
    match k, k3, k4 with
    | 0, k3, k4 =>
      cases k4
      refine ⟨6, 2, 7, ⟨[], (0, 5, 6, 20), [(0, 5, 10, 31)], rfl, rfl, by decide, by decide, (tG 312 (by decide +kernel) (by decide +kernel)), by decide +kernel, (fun z hz => by cases hz)⟩, Or.inl ⟨2, dL_tryAppend_6, rfl, rfl⟩, by decide, fun j hj => by have h9 : j = 1 := (by omega); subst h9; rfl, ?_⟩
      refine r_ldc (v := -9999002) (pc := 7) (tG 410 (by decide +kernel) (by decide +kernel)) dL_tryAppend_7 ?_
      exact p_ireturnW (pc := 9) rfl rfl rfl dL_tryAppend_9 (by decide) (by decide) rfl (tV_x k3 rfl k1 k2)
    | 1, k3, k4 =>
      cases k4
      refine ⟨10, 2, 11, ⟨[(0, 5, 6, 20)], (0, 5, 10, 31), [], rfl, rfl, by decide, by decide, (tG 313 (by decide +kernel) (by decide +kernel)), by decide +kernel, (fun z hz => by
          simp only [List.mem_cons, List.not_mem_nil, or_false] at hz
          subst hz
          exact ⟨by decide, xIAE, (tG 312 (by decide +kernel) (by decide +kernel)), by decide +kernel⟩)⟩, Or.inl ⟨2, dL_tryAppend_10, rfl, rfl⟩, by decide, fun j hj => by have h9 : j = 1 := (by omega); subst h9; rfl, ?_⟩
      refine r_ldc (v := -9999003) (pc := 11) (tG 411 (by decide +kernel) (by decide +kernel)) dL_tryAppend_11 ?_
      exact p_ireturnW (pc := 13) rfl rfl rfl dL_tryAppend_13 (by decide) (by decide) rfl (tV_x k3 rfl k1 k2)
    | k + 2, k3, k4 => cases k4
theorem sL_tryLoad (hF : FACE M w) (hO : WOK w) : SpecW mL_tryLoad [(0, 4, 5, 31)] 9 1 6 [.ref 0] M (tV M (vA [cST] (A_load w)) (A_load w).2.2) := by
  refine SpecW_of [some (.ref 0), none] (by decide) (Nat.le_of_ble_eq_true rfl) rfl ?_
  have h0 : M 0 = some (cO 6 [.ref 1, .ref 23, .ref 45, .ref 145, .ref 162]) := hF.1
  refine r_aload0 (pc := 0) dL_tryLoad_0 ?_
  refine G_callX (pc := 1) (as := []) (rest := []) rfl rfl lk_L_34 dL_tryLoad_1 h0 (s7_load hF hO) (by decide) rfl (by decide) (by decide) (fun r1 M1 h1 => ?_) (fun E M1 h1 => ?_)
  · obtain ⟨k1, k2, k3, k4⟩ := h1
    subst k4
    exact p_ireturnW (pc := 4) rfl rfl rfl dL_tryLoad_4 (by decide) (by decide) rfl (tV_o k3 k1 k2)
  · obtain ⟨k1, k2, k, k3, k4⟩ := h1
    match k, k3, k4 with
    | 0, k3, k4 =>
      cases k4
      refine ⟨5, 1, 6, ⟨[], (0, 4, 5, 31), [], rfl, rfl, by decide, by decide, (tG 313 (by decide +kernel) (by decide +kernel)), by decide +kernel, (fun z hz => by cases hz)⟩, Or.inl ⟨1, dL_tryLoad_5, rfl, rfl⟩, by decide, fun j hj => by have h9 : j = 0 := (by omega); subst h9; rfl, ?_⟩
      refine r_ldc (v := -9999003) (pc := 6) (tG 411 (by decide +kernel) (by decide +kernel)) dL_tryLoad_6 ?_
      exact p_ireturnW (pc := 8) rfl rfl rfl dL_tryLoad_8 (by decide) (by decide) rfl (tV_x k3 rfl k1 k2)
    | k + 1, k3, k4 => cases k4
theorem sL_tryAbout (hF : FACE M w) (hO : WOK w) {x : Int32} : SpecW mL_tryAbout [(0, 5, 6, 20)] 9 1 6 [.ref 0, .int x] M (tV M (vA [cAR] (A_about x w)) (A_about x w).2.2) := by
  refine SpecW_of [some (.ref 0), some (.int x), none] (by decide) (Nat.le_of_ble_eq_true rfl) rfl ?_
  have h0 : M 0 = some (cO 6 [.ref 1, .ref 23, .ref 45, .ref 145, .ref 162]) := hF.1
  refine r_aload0 (pc := 0) dL_tryAbout_0 ?_
  refine r_iload1 (pc := 1) dL_tryAbout_1 ?_
  refine G_callX (pc := 2) (as := [.int x]) (rest := []) rfl rfl lk_L_38 dL_tryAbout_2 h0 (s7_about hF hO) (by decide) rfl (by decide) (by decide) (fun r1 M1 h1 => ?_) (fun E M1 h1 => ?_)
  · obtain ⟨k1, k2, k3, k4⟩ := h1
    subst k4
    exact p_ireturnW (pc := 5) rfl rfl rfl dL_tryAbout_5 (by decide) (by decide) rfl (tV_o k3 k1 k2)
  · obtain ⟨k1, k2, k, k3, k4⟩ := h1
    match k, k3, k4 with
    | 0, k3, k4 =>
      cases k4
      refine ⟨6, 2, 7, ⟨[], (0, 5, 6, 20), [], rfl, rfl, by decide, by decide, (tG 312 (by decide +kernel) (by decide +kernel)), by decide +kernel, (fun z hz => by cases hz)⟩, Or.inl ⟨2, dL_tryAbout_6, rfl, rfl⟩, by decide, fun j hj => by have h9 : j = 1 := (by omega); subst h9; rfl, ?_⟩
      refine r_ldc (v := -9999002) (pc := 7) (tG 410 (by decide +kernel) (by decide +kernel)) dL_tryAbout_7 ?_
      exact p_ireturnW (pc := 9) rfl rfl rfl dL_tryAbout_9 (by decide) (by decide) rfl (tV_x k3 rfl k1 k2)
    | k + 1, k3, k4 => cases k4
theorem sL_trySpot (hF : FACE M w) (hO : WOK w) {x : Int32} {y : Int32} {g : Int32} : SpecW mL_trySpot [(0, 7, 8, 13), (0, 7, 13, 20)] 9 1 6 [.ref 0, .int x, .int y, .int g] M (tV M (vA [cIX, cAR] (A_square x y g w)) (A_square x y g w).2.2) := by
  refine SpecW_of [some (.ref 0), some (.int x), some (.int y), some (.int g), none] (by decide) (Nat.le_of_ble_eq_true rfl) rfl ?_
  have h0 : M 0 = some (cO 6 [.ref 1, .ref 23, .ref 45, .ref 145, .ref 162]) := hF.1
  refine r_aload0 (pc := 0) dL_trySpot_0 ?_
  refine r_iload1 (pc := 1) dL_trySpot_1 ?_
  refine r_iload2 (pc := 2) dL_trySpot_2 ?_
  refine r_iload3 (pc := 3) dL_trySpot_3 ?_
  refine G_callX (pc := 4) (as := [.int x, .int y, .int g]) (rest := []) rfl rfl lk_L_41 dL_trySpot_4 h0 (s7_square hF hO) (by decide) rfl (by decide) (by decide) (fun r1 M1 h1 => ?_) (fun E M1 h1 => ?_)
  · obtain ⟨k1, k2, k3, k4⟩ := h1
    subst k4
    exact p_ireturnW (pc := 7) rfl rfl rfl dL_trySpot_7 (by decide) (by decide) rfl (tV_o k3 k1 k2)
  · obtain ⟨k1, k2, k, k3, k4⟩ := h1
    match k, k3, k4 with
    | 0, k3, k4 =>
      cases k4
      refine ⟨8, 4, 10, ⟨[], (0, 7, 8, 13), [(0, 7, 13, 20)], rfl, rfl, by decide, by decide, (tG 701 (by decide +kernel) (by decide +kernel)), by decide +kernel, (fun z hz => by cases hz)⟩, Or.inr ⟨dL_trySpot_8, rfl⟩, by decide, fun j hj => by have h9 : j = 3 := (by omega); subst h9; rfl, ?_⟩
      refine r_ldc (v := -9999001) (pc := 10) (tG 734 (by decide +kernel) (by decide +kernel)) dL_trySpot_10 ?_
      exact p_ireturnW (pc := 12) rfl rfl rfl dL_trySpot_12 (by decide) (by decide) rfl (tV_x k3 rfl k1 k2)
    | 1, k3, k4 =>
      cases k4
      refine ⟨13, 4, 15, ⟨[(0, 7, 8, 13)], (0, 7, 13, 20), [], rfl, rfl, by decide, by decide, (tG 312 (by decide +kernel) (by decide +kernel)), by decide +kernel, (fun z hz => by
          simp only [List.mem_cons, List.not_mem_nil, or_false] at hz
          subst hz
          exact ⟨by decide, xIOB, (tG 701 (by decide +kernel) (by decide +kernel)), by decide +kernel⟩)⟩, Or.inr ⟨dL_trySpot_13, rfl⟩, by decide, fun j hj => by have h9 : j = 3 := (by omega); subst h9; rfl, ?_⟩
      refine r_ldc (v := -9999002) (pc := 15) (tG 410 (by decide +kernel) (by decide +kernel)) dL_trySpot_15 ?_
      exact p_ireturnW (pc := 17) rfl rfl rfl dL_trySpot_17 (by decide) (by decide) rfl (tV_x k3 rfl k1 k2)
    | k + 2, k3, k4 => cases k4
theorem sL_tryPlace (hF : FACE M w) (hO : WOK w) {x : Int32} {y : Int32} : SpecW mL_tryPlace [(0, 6, 7, 13), (0, 6, 11, 20)] 9 1 6 [.ref 0, .int x, .int y] M (tV M (vA [cIX, cAR] (A_place x y w)) (A_place x y w).2.2) := by
  refine SpecW_of [some (.ref 0), some (.int x), some (.int y), none] (by decide) (Nat.le_of_ble_eq_true rfl) rfl ?_
  have h0 : M 0 = some (cO 6 [.ref 1, .ref 23, .ref 45, .ref 145, .ref 162]) := hF.1
  refine r_aload0 (pc := 0) dL_tryPlace_0 ?_
  refine r_iload1 (pc := 1) dL_tryPlace_1 ?_
  refine r_iload2 (pc := 2) dL_tryPlace_2 ?_
  refine G_callX (pc := 3) (as := [.int x, .int y]) (rest := []) rfl rfl lk_L_45 dL_tryPlace_3 h0 (s7_place hF hO) (by decide) rfl (by decide) (by decide) (fun r1 M1 h1 => ?_) (fun E M1 h1 => ?_)
  · obtain ⟨k1, k2, k3, k4⟩ := h1
    subst k4
    exact p_ireturnW (pc := 6) rfl rfl rfl dL_tryPlace_6 (by decide) (by decide) rfl (tV_o k3 k1 k2)
  · obtain ⟨k1, k2, k, k3, k4⟩ := h1
    match k, k3, k4 with
    | 0, k3, k4 =>
      cases k4
      refine ⟨7, 3, 8, ⟨[], (0, 6, 7, 13), [(0, 6, 11, 20)], rfl, rfl, by decide, by decide, (tG 701 (by decide +kernel) (by decide +kernel)), by decide +kernel, (fun z hz => by cases hz)⟩, Or.inl ⟨3, dL_tryPlace_7, rfl, rfl⟩, by decide, fun j hj => by have h9 : j = 2 := (by omega); subst h9; rfl, ?_⟩
      refine r_ldc (v := -9999001) (pc := 8) (tG 734 (by decide +kernel) (by decide +kernel)) dL_tryPlace_8 ?_
      exact p_ireturnW (pc := 10) rfl rfl rfl dL_tryPlace_10 (by decide) (by decide) rfl (tV_x k3 rfl k1 k2)
    | 1, k3, k4 =>
      cases k4
      refine ⟨11, 3, 12, ⟨[(0, 6, 7, 13)], (0, 6, 11, 20), [], rfl, rfl, by decide, by decide, (tG 312 (by decide +kernel) (by decide +kernel)), by decide +kernel, (fun z hz => by
          simp only [List.mem_cons, List.not_mem_nil, or_false] at hz
          subst hz
          exact ⟨by decide, xIOB, (tG 701 (by decide +kernel) (by decide +kernel)), by decide +kernel⟩)⟩, Or.inl ⟨3, dL_tryPlace_11, rfl, rfl⟩, by decide, fun j hj => by have h9 : j = 2 := (by omega); subst h9; rfl, ?_⟩
      refine r_ldc (v := -9999002) (pc := 12) (tG 410 (by decide +kernel) (by decide +kernel)) dL_tryPlace_12 ?_
      exact p_ireturnW (pc := 14) rfl rfl rfl dL_tryPlace_14 (by decide) (by decide) rfl (tV_x k3 rfl k1 k2)
    | k + 2, k3, k4 => cases k4
theorem sL_tryTile (hF : FACE M w) (hO : WOK w) {x : Int32} {y : Int32} : SpecW mL_tryTile [(0, 6, 7, 13), (0, 6, 11, 20)] 9 1 6 [.ref 0, .int x, .int y] M (tV M (vA [cIX, cAR] (A_tile x y w)) (A_tile x y w).2.2) := by
  refine SpecW_of [some (.ref 0), some (.int x), some (.int y), none] (by decide) (Nat.le_of_ble_eq_true rfl) rfl ?_
  have h0 : M 0 = some (cO 6 [.ref 1, .ref 23, .ref 45, .ref 145, .ref 162]) := hF.1
  refine r_aload0 (pc := 0) dL_tryTile_0 ?_
  refine r_iload1 (pc := 1) dL_tryTile_1 ?_
  refine r_iload2 (pc := 2) dL_tryTile_2 ?_
  refine G_callX (pc := 3) (as := [.int x, .int y]) (rest := []) rfl rfl lk_L_49 dL_tryTile_3 h0 (s7_tile hF hO) (by decide) rfl (by decide) (by decide) (fun r1 M1 h1 => ?_) (fun E M1 h1 => ?_)
  · obtain ⟨k1, k2, k3, k4⟩ := h1
    subst k4
    exact p_ireturnW (pc := 6) rfl rfl rfl dL_tryTile_6 (by decide) (by decide) rfl (tV_o k3 k1 k2)
  · obtain ⟨k1, k2, k, k3, k4⟩ := h1
    match k, k3, k4 with
    | 0, k3, k4 =>
      cases k4
      refine ⟨7, 3, 8, ⟨[], (0, 6, 7, 13), [(0, 6, 11, 20)], rfl, rfl, by decide, by decide, (tG 701 (by decide +kernel) (by decide +kernel)), by decide +kernel, (fun z hz => by cases hz)⟩, Or.inl ⟨3, dL_tryTile_7, rfl, rfl⟩, by decide, fun j hj => by have h9 : j = 2 := (by omega); subst h9; rfl, ?_⟩
      refine r_ldc (v := -9999001) (pc := 8) (tG 734 (by decide +kernel) (by decide +kernel)) dL_tryTile_8 ?_
      exact p_ireturnW (pc := 10) rfl rfl rfl dL_tryTile_10 (by decide) (by decide) rfl (tV_x k3 rfl k1 k2)
    | 1, k3, k4 =>
      cases k4
      refine ⟨11, 3, 12, ⟨[(0, 6, 7, 13)], (0, 6, 11, 20), [], rfl, rfl, by decide, by decide, (tG 312 (by decide +kernel) (by decide +kernel)), by decide +kernel, (fun z hz => by
          simp only [List.mem_cons, List.not_mem_nil, or_false] at hz
          subst hz
          exact ⟨by decide, xIOB, (tG 701 (by decide +kernel) (by decide +kernel)), by decide +kernel⟩)⟩, Or.inl ⟨3, dL_tryTile_11, rfl, rfl⟩, by decide, fun j hj => by have h9 : j = 2 := (by omega); subst h9; rfl, ?_⟩
      refine r_ldc (v := -9999002) (pc := 12) (tG 410 (by decide +kernel) (by decide +kernel)) dL_tryTile_12 ?_
      exact p_ireturnW (pc := 14) rfl rfl rfl dL_tryTile_14 (by decide) (by decide) rfl (tV_x k3 rfl k1 k2)
    | k + 2, k3, k4 => cases k4
theorem sL_tryBegin (hF : FACE M w) (hO : WOK w) {x : Int32} {y : Int32} : SpecW mL_tryBegin [(0, 6, 7, 20)] 9 1 6 [.ref 0, .int x, .int y] M (tV M (vA [cAR] (A_begin x y w)) (A_begin x y w).2.2) := by
  refine SpecW_of [some (.ref 0), some (.int x), some (.int y), none] (by decide) (Nat.le_of_ble_eq_true rfl) rfl ?_
  have h0 : M 0 = some (cO 6 [.ref 1, .ref 23, .ref 45, .ref 145, .ref 162]) := hF.1
  refine r_aload0 (pc := 0) dL_tryBegin_0 ?_
  refine r_iload1 (pc := 1) dL_tryBegin_1 ?_
  refine r_iload2 (pc := 2) dL_tryBegin_2 ?_
  refine G_callX (pc := 3) (as := [.int x, .int y]) (rest := []) rfl rfl lk_L_52 dL_tryBegin_3 h0 (s7_begin hF hO) (by decide) rfl (by decide) (by decide) (fun r1 M1 h1 => ?_) (fun E M1 h1 => ?_)
  · obtain ⟨k1, k2, k3, k4⟩ := h1
    subst k4
    exact p_ireturnW (pc := 6) rfl rfl rfl dL_tryBegin_6 (by decide) (by decide) rfl (tV_o k3 k1 k2)
  · obtain ⟨k1, k2, k, k3, k4⟩ := h1
    match k, k3, k4 with
    | 0, k3, k4 =>
      cases k4
      refine ⟨7, 3, 8, ⟨[], (0, 6, 7, 20), [], rfl, rfl, by decide, by decide, (tG 312 (by decide +kernel) (by decide +kernel)), by decide +kernel, (fun z hz => by cases hz)⟩, Or.inl ⟨3, dL_tryBegin_7, rfl, rfl⟩, by decide, fun j hj => by have h9 : j = 2 := (by omega); subst h9; rfl, ?_⟩
      refine r_ldc (v := -9999002) (pc := 8) (tG 410 (by decide +kernel) (by decide +kernel)) dL_tryBegin_8 ?_
      exact p_ireturnW (pc := 10) rfl rfl rfl dL_tryBegin_10 (by decide) (by decide) rfl (tV_x k3 rfl k1 k2)
    | k + 1, k3, k4 => cases k4
theorem sL_tryGrey (hF : FACE M w) (hO : WOK w) {x : Int32} {y : Int32} {g : Int32} : SpecW mL_tryGrey [(0, 7, 8, 13), (0, 7, 13, 20)] 9 1 6 [.ref 0, .int x, .int y, .int g] M (tV M (vA [cIX, cAR] (A_grey x y g w)) (A_grey x y g w).2.2) := by
  refine SpecW_of [some (.ref 0), some (.int x), some (.int y), some (.int g), none] (by decide) (Nat.le_of_ble_eq_true rfl) rfl ?_
  have h0 : M 0 = some (cO 6 [.ref 1, .ref 23, .ref 45, .ref 145, .ref 162]) := hF.1
  refine r_aload0 (pc := 0) dL_tryGrey_0 ?_
  refine r_iload1 (pc := 1) dL_tryGrey_1 ?_
  refine r_iload2 (pc := 2) dL_tryGrey_2 ?_
  refine r_iload3 (pc := 3) dL_tryGrey_3 ?_
  refine G_callX (pc := 4) (as := [.int x, .int y, .int g]) (rest := []) rfl rfl lk_L_55 dL_tryGrey_4 h0 (s7_grey hF hO) (by decide) rfl (by decide) (by decide) (fun r1 M1 h1 => ?_) (fun E M1 h1 => ?_)
  · obtain ⟨k1, k2, k3, k4⟩ := h1
    subst k4
    exact p_ireturnW (pc := 7) rfl rfl rfl dL_tryGrey_7 (by decide) (by decide) rfl (tV_o k3 k1 k2)
  · obtain ⟨k1, k2, k, k3, k4⟩ := h1
    match k, k3, k4 with
    | 0, k3, k4 =>
      cases k4
      refine ⟨8, 4, 10, ⟨[], (0, 7, 8, 13), [(0, 7, 13, 20)], rfl, rfl, by decide, by decide, (tG 701 (by decide +kernel) (by decide +kernel)), by decide +kernel, (fun z hz => by cases hz)⟩, Or.inr ⟨dL_tryGrey_8, rfl⟩, by decide, fun j hj => by have h9 : j = 3 := (by omega); subst h9; rfl, ?_⟩
      refine r_ldc (v := -9999001) (pc := 10) (tG 734 (by decide +kernel) (by decide +kernel)) dL_tryGrey_10 ?_
      exact p_ireturnW (pc := 12) rfl rfl rfl dL_tryGrey_12 (by decide) (by decide) rfl (tV_x k3 rfl k1 k2)
    | 1, k3, k4 =>
      cases k4
      refine ⟨13, 4, 15, ⟨[(0, 7, 8, 13)], (0, 7, 13, 20), [], rfl, rfl, by decide, by decide, (tG 312 (by decide +kernel) (by decide +kernel)), by decide +kernel, (fun z hz => by
          simp only [List.mem_cons, List.not_mem_nil, or_false] at hz
          subst hz
          exact ⟨by decide, xIOB, (tG 701 (by decide +kernel) (by decide +kernel)), by decide +kernel⟩)⟩, Or.inr ⟨dL_tryGrey_13, rfl⟩, by decide, fun j hj => by have h9 : j = 3 := (by omega); subst h9; rfl, ?_⟩
      refine r_ldc (v := -9999002) (pc := 15) (tG 410 (by decide +kernel) (by decide +kernel)) dL_tryGrey_15 ?_
      exact p_ireturnW (pc := 17) rfl rfl rfl dL_tryGrey_17 (by decide) (by decide) rfl (tV_x k3 rfl k1 k2)
    | k + 2, k3, k4 => cases k4
theorem sL_tryFade (hF : FACE M w) (hO : WOK w) {x : Int32} {y : Int32} : SpecW mL_tryFade [(0, 6, 7, 20)] 9 1 6 [.ref 0, .int x, .int y] M (tV M (vA [cAR] (A_fade x y w)) (A_fade x y w).2.2) := by
  refine SpecW_of [some (.ref 0), some (.int x), some (.int y), none] (by decide) (Nat.le_of_ble_eq_true rfl) rfl ?_
  have h0 : M 0 = some (cO 6 [.ref 1, .ref 23, .ref 45, .ref 145, .ref 162]) := hF.1
  refine r_aload0 (pc := 0) dL_tryFade_0 ?_
  refine r_iload1 (pc := 1) dL_tryFade_1 ?_
  refine r_iload2 (pc := 2) dL_tryFade_2 ?_
  refine G_callX (pc := 3) (as := [.int x, .int y]) (rest := []) rfl rfl lk_L_58 dL_tryFade_3 h0 (s7_fade hF hO) (by decide) rfl (by decide) (by decide) (fun r1 M1 h1 => ?_) (fun E M1 h1 => ?_)
  · obtain ⟨k1, k2, k3, k4⟩ := h1
    subst k4
    exact p_ireturnW (pc := 6) rfl rfl rfl dL_tryFade_6 (by decide) (by decide) rfl (tV_o k3 k1 k2)
  · obtain ⟨k1, k2, k, k3, k4⟩ := h1
    match k, k3, k4 with
    | 0, k3, k4 =>
      cases k4
      refine ⟨7, 3, 8, ⟨[], (0, 6, 7, 20), [], rfl, rfl, by decide, by decide, (tG 312 (by decide +kernel) (by decide +kernel)), by decide +kernel, (fun z hz => by cases hz)⟩, Or.inl ⟨3, dL_tryFade_7, rfl, rfl⟩, by decide, fun j hj => by have h9 : j = 2 := (by omega); subst h9; rfl, ?_⟩
      refine r_ldc (v := -9999002) (pc := 8) (tG 410 (by decide +kernel) (by decide +kernel)) dL_tryFade_8 ?_
      exact p_ireturnW (pc := 10) rfl rfl rfl dL_tryFade_10 (by decide) (by decide) rfl (tV_x k3 rfl k1 k2)
    | k + 1, k3, k4 => cases k4
theorem sL_tryTurn (hF : FACE M w) (hO : WOK w) {x : Int32} : SpecW mL_tryTurn [(0, 5, 6, 13), (0, 5, 10, 31)] 9 1 6 [.ref 0, .int x] M (tV M (vA [cIX, cST] (A_turn x w)) (A_turn x w).2.2) := by
  refine SpecW_of [some (.ref 0), some (.int x), none] (by decide) (Nat.le_of_ble_eq_true rfl) rfl ?_
  have h0 : M 0 = some (cO 6 [.ref 1, .ref 23, .ref 45, .ref 145, .ref 162]) := hF.1
  refine r_aload0 (pc := 0) dL_tryTurn_0 ?_
  refine r_iload1 (pc := 1) dL_tryTurn_1 ?_
  refine G_callX (pc := 2) (as := [.int x]) (rest := []) rfl rfl lk_L_61 dL_tryTurn_2 h0 (s7_turn hF hO) (by decide) rfl (by decide) (by decide) (fun r1 M1 h1 => ?_) (fun E M1 h1 => ?_)
  · obtain ⟨k1, k2, k3, k4⟩ := h1
    subst k4
    exact p_ireturnW (pc := 5) rfl rfl rfl dL_tryTurn_5 (by decide) (by decide) rfl (tV_o k3 k1 k2)
  · obtain ⟨k1, k2, k, k3, k4⟩ := h1
    match k, k3, k4 with
    | 0, k3, k4 =>
      cases k4
      refine ⟨6, 2, 7, ⟨[], (0, 5, 6, 13), [(0, 5, 10, 31)], rfl, rfl, by decide, by decide, (tG 701 (by decide +kernel) (by decide +kernel)), by decide +kernel, (fun z hz => by cases hz)⟩, Or.inl ⟨2, dL_tryTurn_6, rfl, rfl⟩, by decide, fun j hj => by have h9 : j = 1 := (by omega); subst h9; rfl, ?_⟩
      refine r_ldc (v := -9999001) (pc := 7) (tG 734 (by decide +kernel) (by decide +kernel)) dL_tryTurn_7 ?_
      exact p_ireturnW (pc := 9) rfl rfl rfl dL_tryTurn_9 (by decide) (by decide) rfl (tV_x k3 rfl k1 k2)
    | 1, k3, k4 =>
      cases k4
      refine ⟨10, 2, 11, ⟨[(0, 5, 6, 13)], (0, 5, 10, 31), [], rfl, rfl, by decide, by decide, (tG 313 (by decide +kernel) (by decide +kernel)), by decide +kernel, (fun z hz => by
          simp only [List.mem_cons, List.not_mem_nil, or_false] at hz
          subst hz
          exact ⟨by decide, xIOB, (tG 701 (by decide +kernel) (by decide +kernel)), by decide +kernel⟩)⟩, Or.inl ⟨2, dL_tryTurn_10, rfl, rfl⟩, by decide, fun j hj => by have h9 : j = 1 := (by omega); subst h9; rfl, ?_⟩
      refine r_ldc (v := -9999003) (pc := 11) (tG 411 (by decide +kernel) (by decide +kernel)) dL_tryTurn_11 ?_
      exact p_ireturnW (pc := 13) rfl rfl rfl dL_tryTurn_13 (by decide) (by decide) rfl (tV_x k3 rfl k1 k2)
    | k + 2, k3, k4 => cases k4
theorem sL_trySwap (hF : FACE M w) (hO : WOK w) {x : Int32} {y : Int32} : SpecW mL_trySwap [(0, 6, 7, 13), (0, 6, 11, 20), (0, 6, 15, 31)] 9 1 6 [.ref 0, .int x, .int y] M (tV M (vA [cIX, cAR, cST] (A_swap x y w)) (A_swap x y w).2.2) := by
  refine SpecW_of [some (.ref 0), some (.int x), some (.int y), none] (by decide) (Nat.le_of_ble_eq_true rfl) rfl ?_
  have h0 : M 0 = some (cO 6 [.ref 1, .ref 23, .ref 45, .ref 145, .ref 162]) := hF.1
  refine r_aload0 (pc := 0) dL_trySwap_0 ?_
  refine r_iload1 (pc := 1) dL_trySwap_1 ?_
  refine r_iload2 (pc := 2) dL_trySwap_2 ?_
  refine G_callX (pc := 3) (as := [.int x, .int y]) (rest := []) rfl rfl lk_L_64 dL_trySwap_3 h0 (s7_swap hF hO) (by decide) rfl (by decide) (by decide) (fun r1 M1 h1 => ?_) (fun E M1 h1 => ?_)
  · obtain ⟨k1, k2, k3, k4⟩ := h1
    subst k4
    exact p_ireturnW (pc := 6) rfl rfl rfl dL_trySwap_6 (by decide) (by decide) rfl (tV_o k3 k1 k2)
  · obtain ⟨k1, k2, k, k3, k4⟩ := h1
    match k, k3, k4 with
    | 0, k3, k4 =>
      cases k4
      refine ⟨7, 3, 8, ⟨[], (0, 6, 7, 13), [(0, 6, 11, 20), (0, 6, 15, 31)], rfl, rfl, by decide, by decide, (tG 701 (by decide +kernel) (by decide +kernel)), by decide +kernel, (fun z hz => by cases hz)⟩, Or.inl ⟨3, dL_trySwap_7, rfl, rfl⟩, by decide, fun j hj => by have h9 : j = 2 := (by omega); subst h9; rfl, ?_⟩
      refine r_ldc (v := -9999001) (pc := 8) (tG 734 (by decide +kernel) (by decide +kernel)) dL_trySwap_8 ?_
      exact p_ireturnW (pc := 10) rfl rfl rfl dL_trySwap_10 (by decide) (by decide) rfl (tV_x k3 rfl k1 k2)
    | 1, k3, k4 =>
      cases k4
      refine ⟨11, 3, 12, ⟨[(0, 6, 7, 13)], (0, 6, 11, 20), [(0, 6, 15, 31)], rfl, rfl, by decide, by decide, (tG 312 (by decide +kernel) (by decide +kernel)), by decide +kernel, (fun z hz => by
          simp only [List.mem_cons, List.not_mem_nil, or_false] at hz
          subst hz
          exact ⟨by decide, xIOB, (tG 701 (by decide +kernel) (by decide +kernel)), by decide +kernel⟩)⟩, Or.inl ⟨3, dL_trySwap_11, rfl, rfl⟩, by decide, fun j hj => by have h9 : j = 2 := (by omega); subst h9; rfl, ?_⟩
      refine r_ldc (v := -9999002) (pc := 12) (tG 410 (by decide +kernel) (by decide +kernel)) dL_trySwap_12 ?_
      exact p_ireturnW (pc := 14) rfl rfl rfl dL_trySwap_14 (by decide) (by decide) rfl (tV_x k3 rfl k1 k2)
    | 2, k3, k4 =>
      cases k4
      refine ⟨15, 3, 16, ⟨[(0, 6, 7, 13), (0, 6, 11, 20)], (0, 6, 15, 31), [], rfl, rfl, by decide, by decide, (tG 313 (by decide +kernel) (by decide +kernel)), by decide +kernel, (fun z hz => by
          simp only [List.mem_cons, List.not_mem_nil, or_false] at hz
          rcases hz with rfl | rfl
          · exact ⟨by decide, xIOB, (tG 701 (by decide +kernel) (by decide +kernel)), by decide +kernel⟩
          · exact ⟨by decide, xIAE, (tG 312 (by decide +kernel) (by decide +kernel)), by decide +kernel⟩)⟩, Or.inl ⟨3, dL_trySwap_15, rfl, rfl⟩, by decide, fun j hj => by have h9 : j = 2 := (by omega); subst h9; rfl, ?_⟩
      refine r_ldc (v := -9999003) (pc := 16) (tG 411 (by decide +kernel) (by decide +kernel)) dL_trySwap_16 ?_
      exact p_ireturnW (pc := 18) rfl rfl rfl dL_trySwap_18 (by decide) (by decide) rfl (tV_x k3 rfl k1 k2)
    | k + 3, k3, k4 => cases k4
theorem sL_tryFlip (hF : FACE M w) (hO : WOK w) {x : Int32} {y : Int32} : SpecW mL_tryFlip [(0, 6, 7, 13), (0, 6, 11, 31)] 9 1 6 [.ref 0, .int x, .int y] M (tV M (vA [cIX, cST] (A_flip x y w)) (A_flip x y w).2.2) := by
  refine SpecW_of [some (.ref 0), some (.int x), some (.int y), none] (by decide) (Nat.le_of_ble_eq_true rfl) rfl ?_
  have h0 : M 0 = some (cO 6 [.ref 1, .ref 23, .ref 45, .ref 145, .ref 162]) := hF.1
  refine r_aload0 (pc := 0) dL_tryFlip_0 ?_
  refine r_iload1 (pc := 1) dL_tryFlip_1 ?_
  refine r_iload2 (pc := 2) dL_tryFlip_2 ?_
  refine G_callX (pc := 3) (as := [.int x, .int y]) (rest := []) rfl rfl lk_L_67 dL_tryFlip_3 h0 (s7_flip hF hO) (by decide) rfl (by decide) (by decide) (fun r1 M1 h1 => ?_) (fun E M1 h1 => ?_)
  · obtain ⟨k1, k2, k3, k4⟩ := h1
    subst k4
    exact p_ireturnW (pc := 6) rfl rfl rfl dL_tryFlip_6 (by decide) (by decide) rfl (tV_o k3 k1 k2)
  · obtain ⟨k1, k2, k, k3, k4⟩ := h1
    match k, k3, k4 with
    | 0, k3, k4 =>
      cases k4
      refine ⟨7, 3, 8, ⟨[], (0, 6, 7, 13), [(0, 6, 11, 31)], rfl, rfl, by decide, by decide, (tG 701 (by decide +kernel) (by decide +kernel)), by decide +kernel, (fun z hz => by cases hz)⟩, Or.inl ⟨3, dL_tryFlip_7, rfl, rfl⟩, by decide, fun j hj => by have h9 : j = 2 := (by omega); subst h9; rfl, ?_⟩
      refine r_ldc (v := -9999001) (pc := 8) (tG 734 (by decide +kernel) (by decide +kernel)) dL_tryFlip_8 ?_
      exact p_ireturnW (pc := 10) rfl rfl rfl dL_tryFlip_10 (by decide) (by decide) rfl (tV_x k3 rfl k1 k2)
    | 1, k3, k4 =>
      cases k4
      refine ⟨11, 3, 12, ⟨[(0, 6, 7, 13)], (0, 6, 11, 31), [], rfl, rfl, by decide, by decide, (tG 313 (by decide +kernel) (by decide +kernel)), by decide +kernel, (fun z hz => by
          simp only [List.mem_cons, List.not_mem_nil, or_false] at hz
          subst hz
          exact ⟨by decide, xIOB, (tG 701 (by decide +kernel) (by decide +kernel)), by decide +kernel⟩)⟩, Or.inl ⟨3, dL_tryFlip_11, rfl, rfl⟩, by decide, fun j hj => by have h9 : j = 2 := (by omega); subst h9; rfl, ?_⟩
      refine r_ldc (v := -9999003) (pc := 12) (tG 411 (by decide +kernel) (by decide +kernel)) dL_tryFlip_12 ?_
      exact p_ireturnW (pc := 14) rfl rfl rfl dL_tryFlip_14 (by decide) (by decide) rfl (tV_x k3 rfl k1 k2)
    | k + 2, k3, k4 => cases k4
theorem sL_tryImprove (hF : FACE M w) (hO : WOK w) {x : Int32} : SpecW mL_tryImprove [(0, 5, 6, 20)] 9 1 6 [.ref 0, .int x] M (tV M (vA [cAR] (A_improve x w)) (A_improve x w).2.2) := by
  refine SpecW_of [some (.ref 0), some (.int x), none] (by decide) (Nat.le_of_ble_eq_true rfl) rfl ?_
  have h0 : M 0 = some (cO 6 [.ref 1, .ref 23, .ref 45, .ref 145, .ref 162]) := hF.1
  refine r_aload0 (pc := 0) dL_tryImprove_0 ?_
  refine r_iload1 (pc := 1) dL_tryImprove_1 ?_
  refine G_callX (pc := 2) (as := [.int x]) (rest := []) rfl rfl lk_L_70 dL_tryImprove_2 h0 (s7_improve hF hO) (by decide) rfl (by decide) (by decide) (fun r1 M1 h1 => ?_) (fun E M1 h1 => ?_)
  · obtain ⟨k1, k2, k3, k4⟩ := h1
    subst k4
    exact p_ireturnW (pc := 5) rfl rfl rfl dL_tryImprove_5 (by decide) (by decide) rfl (tV_o k3 k1 k2)
  · obtain ⟨k1, k2, k, k3, k4⟩ := h1
    match k, k3, k4 with
    | 0, k3, k4 =>
      cases k4
      refine ⟨6, 2, 7, ⟨[], (0, 5, 6, 20), [], rfl, rfl, by decide, by decide, (tG 312 (by decide +kernel) (by decide +kernel)), by decide +kernel, (fun z hz => by cases hz)⟩, Or.inl ⟨2, dL_tryImprove_6, rfl, rfl⟩, by decide, fun j hj => by have h9 : j = 1 := (by omega); subst h9; rfl, ?_⟩
      refine r_ldc (v := -9999002) (pc := 7) (tG 410 (by decide +kernel) (by decide +kernel)) dL_tryImprove_7 ?_
      exact p_ireturnW (pc := 9) rfl rfl rfl dL_tryImprove_9 (by decide) (by decide) rfl (tV_x k3 rfl k1 k2)
    | k + 1, k3, k4 => cases k4
theorem sL_tryUndo (hF : FACE M w) (hO : WOK w) : SpecW mL_tryUndo [(0, 4, 5, 31)] 9 1 6 [.ref 0] M (tV M (vA [cST] (A_undo w)) (A_undo w).2.2) := by
  refine SpecW_of [some (.ref 0), none] (by decide) (Nat.le_of_ble_eq_true rfl) rfl ?_
  have h0 : M 0 = some (cO 6 [.ref 1, .ref 23, .ref 45, .ref 145, .ref 162]) := hF.1
  refine r_aload0 (pc := 0) dL_tryUndo_0 ?_
  refine G_callX (pc := 1) (as := []) (rest := []) rfl rfl lk_L_73 dL_tryUndo_1 h0 (s7_undo hF hO) (by decide) rfl (by decide) (by decide) (fun r1 M1 h1 => ?_) (fun E M1 h1 => ?_)
  · obtain ⟨k1, k2, k3, k4⟩ := h1
    subst k4
    exact p_ireturnW (pc := 4) rfl rfl rfl dL_tryUndo_4 (by decide) (by decide) rfl (tV_o k3 k1 k2)
  · obtain ⟨k1, k2, k, k3, k4⟩ := h1
    match k, k3, k4 with
    | 0, k3, k4 =>
      cases k4
      refine ⟨5, 1, 6, ⟨[], (0, 4, 5, 31), [], rfl, rfl, by decide, by decide, (tG 313 (by decide +kernel) (by decide +kernel)), by decide +kernel, (fun z hz => by cases hz)⟩, Or.inl ⟨1, dL_tryUndo_5, rfl, rfl⟩, by decide, fun j hj => by have h9 : j = 0 := (by omega); subst h9; rfl, ?_⟩
      refine r_ldc (v := -9999003) (pc := 6) (tG 411 (by decide +kernel) (by decide +kernel)) dL_tryUndo_6 ?_
      exact p_ireturnW (pc := 8) rfl rfl rfl dL_tryUndo_8 (by decide) (by decide) rfl (tV_x k3 rfl k1 k2)
    | k + 1, k3, k4 => cases k4
theorem sL_tryGain (hF : FACE M w) (hO : WOK w) {x : Int32} : SpecW mL_tryGain [(0, 5, 6, 20)] 9 1 6 [.ref 0, .int x] M (tV M (vA [cAR] (A_gain x w)) (A_gain x w).2.2) := by
  refine SpecW_of [some (.ref 0), some (.int x), none] (by decide) (Nat.le_of_ble_eq_true rfl) rfl ?_
  have h0 : M 0 = some (cO 6 [.ref 1, .ref 23, .ref 45, .ref 145, .ref 162]) := hF.1
  refine r_aload0 (pc := 0) dL_tryGain_0 ?_
  refine r_iload1 (pc := 1) dL_tryGain_1 ?_
  refine G_callX (pc := 2) (as := [.int x]) (rest := []) rfl rfl lk_L_76 dL_tryGain_2 h0 (s7_gain hF hO) (by decide) rfl (by decide) (by decide) (fun r1 M1 h1 => ?_) (fun E M1 h1 => ?_)
  · obtain ⟨k1, k2, k3, k4⟩ := h1
    subst k4
    exact p_ireturnW (pc := 5) rfl rfl rfl dL_tryGain_5 (by decide) (by decide) rfl (tV_o k3 k1 k2)
  · obtain ⟨k1, k2, k, k3, k4⟩ := h1
    match k, k3, k4 with
    | 0, k3, k4 =>
      cases k4
      refine ⟨6, 2, 7, ⟨[], (0, 5, 6, 20), [], rfl, rfl, by decide, by decide, (tG 312 (by decide +kernel) (by decide +kernel)), by decide +kernel, (fun z hz => by cases hz)⟩, Or.inl ⟨2, dL_tryGain_6, rfl, rfl⟩, by decide, fun j hj => by have h9 : j = 1 := (by omega); subst h9; rfl, ?_⟩
      refine r_ldc (v := -9999002) (pc := 7) (tG 410 (by decide +kernel) (by decide +kernel)) dL_tryGain_7 ?_
      exact p_ireturnW (pc := 9) rfl rfl rfl dL_tryGain_9 (by decide) (by decide) rfl (tV_x k3 rfl k1 k2)
    | k + 1, k3, k4 => cases k4
theorem sL_tryBest (hF : FACE M w) (hO : WOK w) {x : Int32} : SpecW mL_tryBest [(0, 5, 6, 20)] 9 1 6 [.ref 0, .int x] M (tV M (vA [cAR] (A_best x w)) (A_best x w).2.2) := by
  refine SpecW_of [some (.ref 0), some (.int x), none] (by decide) (Nat.le_of_ble_eq_true rfl) rfl ?_
  have h0 : M 0 = some (cO 6 [.ref 1, .ref 23, .ref 45, .ref 145, .ref 162]) := hF.1
  refine r_aload0 (pc := 0) dL_tryBest_0 ?_
  refine r_iload1 (pc := 1) dL_tryBest_1 ?_
  refine G_callX (pc := 2) (as := [.int x]) (rest := []) rfl rfl lk_L_79 dL_tryBest_2 h0 (s7_best hF hO) (by decide) rfl (by decide) (by decide) (fun r1 M1 h1 => ?_) (fun E M1 h1 => ?_)
  · obtain ⟨k1, k2, k3, k4⟩ := h1
    subst k4
    exact p_ireturnW (pc := 5) rfl rfl rfl dL_tryBest_5 (by decide) (by decide) rfl (tV_o k3 k1 k2)
  · obtain ⟨k1, k2, k, k3, k4⟩ := h1
    match k, k3, k4 with
    | 0, k3, k4 =>
      cases k4
      refine ⟨6, 2, 7, ⟨[], (0, 5, 6, 20), [], rfl, rfl, by decide, by decide, (tG 312 (by decide +kernel) (by decide +kernel)), by decide +kernel, (fun z hz => by cases hz)⟩, Or.inl ⟨2, dL_tryBest_6, rfl, rfl⟩, by decide, fun j hj => by have h9 : j = 1 := (by omega); subst h9; rfl, ?_⟩
      refine r_ldc (v := -9999002) (pc := 7) (tG 410 (by decide +kernel) (by decide +kernel)) dL_tryBest_7 ?_
      exact p_ireturnW (pc := 9) rfl rfl rfl dL_tryBest_9 (by decide) (by decide) rfl (tV_x k3 rfl k1 k2)
    | k + 1, k3, k4 => cases k4
theorem sL_tryIf (hF : FACE M w) (hO : WOK w) {x : Int32} {y : Int32} : SpecW mL_tryIf [(0, 6, 7, 20)] 9 1 6 [.ref 0, .int x, .int y] M (tV M (vA [cAR] (A_ifImproved x y w)) (A_ifImproved x y w).2.2) := by
  refine SpecW_of [some (.ref 0), some (.int x), some (.int y), none] (by decide) (Nat.le_of_ble_eq_true rfl) rfl ?_
  have h0 : M 0 = some (cO 6 [.ref 1, .ref 23, .ref 45, .ref 145, .ref 162]) := hF.1
  refine r_aload0 (pc := 0) dL_tryIf_0 ?_
  refine r_iload1 (pc := 1) dL_tryIf_1 ?_
  refine r_iload2 (pc := 2) dL_tryIf_2 ?_
  refine G_callX (pc := 3) (as := [.int x, .int y]) (rest := []) rfl rfl lk_L_82 dL_tryIf_3 h0 (s7_ifImproved hF hO) (by decide) rfl (by decide) (by decide) (fun r1 M1 h1 => ?_) (fun E M1 h1 => ?_)
  · obtain ⟨k1, k2, k3, k4⟩ := h1
    subst k4
    exact p_ireturnW (pc := 6) rfl rfl rfl dL_tryIf_6 (by decide) (by decide) rfl (tV_o k3 k1 k2)
  · obtain ⟨k1, k2, k, k3, k4⟩ := h1
    match k, k3, k4 with
    | 0, k3, k4 =>
      cases k4
      refine ⟨7, 3, 8, ⟨[], (0, 6, 7, 20), [], rfl, rfl, by decide, by decide, (tG 312 (by decide +kernel) (by decide +kernel)), by decide +kernel, (fun z hz => by cases hz)⟩, Or.inl ⟨3, dL_tryIf_7, rfl, rfl⟩, by decide, fun j hj => by have h9 : j = 2 := (by omega); subst h9; rfl, ?_⟩
      refine r_ldc (v := -9999002) (pc := 8) (tG 410 (by decide +kernel) (by decide +kernel)) dL_tryIf_8 ?_
      exact p_ireturnW (pc := 10) rfl rfl rfl dL_tryIf_10 (by decide) (by decide) rfl (tV_x k3 rfl k1 k2)
    | k + 1, k3, k4 => cases k4
theorem sL_tryWorst (hF : FACE M w) (hO : WOK w) {x : Int32} : SpecW mL_tryWorst [(0, 5, 6, 13)] 9 1 6 [.ref 0, .int x] M (tV M (vA [cIX] (A_worst x w)) (A_worst x w).2.2) := by
  refine SpecW_of [some (.ref 0), some (.int x), none] (by decide) (Nat.le_of_ble_eq_true rfl) rfl ?_
  have h0 : M 0 = some (cO 6 [.ref 1, .ref 23, .ref 45, .ref 145, .ref 162]) := hF.1
  refine r_aload0 (pc := 0) dL_tryWorst_0 ?_
  refine r_iload1 (pc := 1) dL_tryWorst_1 ?_
  refine G_callX (pc := 2) (as := [.int x]) (rest := []) rfl rfl lk_L_85 dL_tryWorst_2 h0 (s7_worst hF hO) (by decide) rfl (by decide) (by decide) (fun r1 M1 h1 => ?_) (fun E M1 h1 => ?_)
  · obtain ⟨k1, k2, k3, k4⟩ := h1
    subst k4
    exact p_ireturnW (pc := 5) rfl rfl rfl dL_tryWorst_5 (by decide) (by decide) rfl (tV_o k3 k1 k2)
  · obtain ⟨k1, k2, k, k3, k4⟩ := h1
    match k, k3, k4 with
    | 0, k3, k4 =>
      cases k4
      refine ⟨6, 2, 7, ⟨[], (0, 5, 6, 13), [], rfl, rfl, by decide, by decide, (tG 701 (by decide +kernel) (by decide +kernel)), by decide +kernel, (fun z hz => by cases hz)⟩, Or.inl ⟨2, dL_tryWorst_6, rfl, rfl⟩, by decide, fun j hj => by have h9 : j = 1 := (by omega); subst h9; rfl, ?_⟩
      refine r_ldc (v := -9999001) (pc := 7) (tG 734 (by decide +kernel) (by decide +kernel)) dL_tryWorst_7 ?_
      exact p_ireturnW (pc := 9) rfl rfl rfl dL_tryWorst_9 (by decide) (by decide) rfl (tV_x k3 rfl k1 k2)
    | k + 1, k3, k4 => cases k4
theorem sL_tryFits (hF : FACE M w) (hO : WOK w) {x : Int32} : SpecW mL_tryFits [(0, 5, 6, 13)] 9 1 6 [.ref 0, .int x] M (tV M (vA [cIX] (A_fits x w)) (A_fits x w).2.2) := by
  refine SpecW_of [some (.ref 0), some (.int x), none] (by decide) (Nat.le_of_ble_eq_true rfl) rfl ?_
  have h0 : M 0 = some (cO 6 [.ref 1, .ref 23, .ref 45, .ref 145, .ref 162]) := hF.1
  refine r_aload0 (pc := 0) dL_tryFits_0 ?_
  refine r_iload1 (pc := 1) dL_tryFits_1 ?_
  refine G_callX (pc := 2) (as := [.int x]) (rest := []) rfl rfl lk_L_88 dL_tryFits_2 h0 (s7_fits hF hO) (by decide) rfl (by decide) (by decide) (fun r1 M1 h1 => ?_) (fun E M1 h1 => ?_)
  · obtain ⟨k1, k2, k3, k4⟩ := h1
    subst k4
    exact p_ireturnW (pc := 5) rfl rfl rfl dL_tryFits_5 (by decide) (by decide) rfl (tV_o k3 k1 k2)
  · obtain ⟨k1, k2, k, k3, k4⟩ := h1
    match k, k3, k4 with
    | 0, k3, k4 =>
      cases k4
      refine ⟨6, 2, 7, ⟨[], (0, 5, 6, 13), [], rfl, rfl, by decide, by decide, (tG 701 (by decide +kernel) (by decide +kernel)), by decide +kernel, (fun z hz => by cases hz)⟩, Or.inl ⟨2, dL_tryFits_6, rfl, rfl⟩, by decide, fun j hj => by have h9 : j = 1 := (by omega); subst h9; rfl, ?_⟩
      refine r_ldc (v := -9999001) (pc := 7) (tG 734 (by decide +kernel) (by decide +kernel)) dL_tryFits_7 ?_
      exact p_ireturnW (pc := 9) rfl rfl rfl dL_tryFits_9 (by decide) (by decide) rfl (tV_x k3 rfl k1 k2)
    | k + 1, k3, k4 => cases k4
theorem sL_tryKeep (hF : FACE M w) (hO : WOK w) {x : Int32} : SpecW mL_tryKeep [(0, 5, 6, 13)] 9 1 6 [.ref 0, .int x] M (tV M (vA [cIX] (A_save x w)) (A_save x w).2.2) := by
  refine SpecW_of [some (.ref 0), some (.int x), none] (by decide) (Nat.le_of_ble_eq_true rfl) rfl ?_
  have h0 : M 0 = some (cO 6 [.ref 1, .ref 23, .ref 45, .ref 145, .ref 162]) := hF.1
  refine r_aload0 (pc := 0) dL_tryKeep_0 ?_
  refine r_iload1 (pc := 1) dL_tryKeep_1 ?_
  refine G_callX (pc := 2) (as := [.int x]) (rest := []) rfl rfl lk_L_91 dL_tryKeep_2 h0 (s7_save hF hO) (by decide) rfl (by decide) (by decide) (fun r1 M1 h1 => ?_) (fun E M1 h1 => ?_)
  · obtain ⟨k1, k2, k3, k4⟩ := h1
    subst k4
    exact p_ireturnW (pc := 5) rfl rfl rfl dL_tryKeep_5 (by decide) (by decide) rfl (tV_o k3 k1 k2)
  · obtain ⟨k1, k2, k, k3, k4⟩ := h1
    match k, k3, k4 with
    | 0, k3, k4 =>
      cases k4
      refine ⟨6, 2, 7, ⟨[], (0, 5, 6, 13), [], rfl, rfl, by decide, by decide, (tG 701 (by decide +kernel) (by decide +kernel)), by decide +kernel, (fun z hz => by cases hz)⟩, Or.inl ⟨2, dL_tryKeep_6, rfl, rfl⟩, by decide, fun j hj => by have h9 : j = 1 := (by omega); subst h9; rfl, ?_⟩
      refine r_ldc (v := -9999001) (pc := 7) (tG 734 (by decide +kernel) (by decide +kernel)) dL_tryKeep_7 ?_
      exact p_ireturnW (pc := 9) rfl rfl rfl dL_tryKeep_9 (by decide) (by decide) rfl (tV_x k3 rfl k1 k2)
    | k + 1, k3, k4 => cases k4
theorem sL_tryBack (hF : FACE M w) (hO : WOK w) {x : Int32} : SpecW mL_tryBack [(0, 5, 6, 13), (0, 5, 10, 31)] 9 1 6 [.ref 0, .int x] M (tV M (vA [cIX, cST] (A_restore x w)) (A_restore x w).2.2) := by
  refine SpecW_of [some (.ref 0), some (.int x), none] (by decide) (Nat.le_of_ble_eq_true rfl) rfl ?_
  have h0 : M 0 = some (cO 6 [.ref 1, .ref 23, .ref 45, .ref 145, .ref 162]) := hF.1
  refine r_aload0 (pc := 0) dL_tryBack_0 ?_
  refine r_iload1 (pc := 1) dL_tryBack_1 ?_
  refine G_callX (pc := 2) (as := [.int x]) (rest := []) rfl rfl lk_L_94 dL_tryBack_2 h0 (s7_restore hF hO) (by decide) rfl (by decide) (by decide) (fun r1 M1 h1 => ?_) (fun E M1 h1 => ?_)
  · obtain ⟨k1, k2, k3, k4⟩ := h1
    subst k4
    exact p_ireturnW (pc := 5) rfl rfl rfl dL_tryBack_5 (by decide) (by decide) rfl (tV_o k3 k1 k2)
  · obtain ⟨k1, k2, k, k3, k4⟩ := h1
    match k, k3, k4 with
    | 0, k3, k4 =>
      cases k4
      refine ⟨6, 2, 7, ⟨[], (0, 5, 6, 13), [(0, 5, 10, 31)], rfl, rfl, by decide, by decide, (tG 701 (by decide +kernel) (by decide +kernel)), by decide +kernel, (fun z hz => by cases hz)⟩, Or.inl ⟨2, dL_tryBack_6, rfl, rfl⟩, by decide, fun j hj => by have h9 : j = 1 := (by omega); subst h9; rfl, ?_⟩
      refine r_ldc (v := -9999001) (pc := 7) (tG 734 (by decide +kernel) (by decide +kernel)) dL_tryBack_7 ?_
      exact p_ireturnW (pc := 9) rfl rfl rfl dL_tryBack_9 (by decide) (by decide) rfl (tV_x k3 rfl k1 k2)
    | 1, k3, k4 =>
      cases k4
      refine ⟨10, 2, 11, ⟨[(0, 5, 6, 13)], (0, 5, 10, 31), [], rfl, rfl, by decide, by decide, (tG 313 (by decide +kernel) (by decide +kernel)), by decide +kernel, (fun z hz => by
          simp only [List.mem_cons, List.not_mem_nil, or_false] at hz
          subst hz
          exact ⟨by decide, xIOB, (tG 701 (by decide +kernel) (by decide +kernel)), by decide +kernel⟩)⟩, Or.inl ⟨2, dL_tryBack_10, rfl, rfl⟩, by decide, fun j hj => by have h9 : j = 1 := (by omega); subst h9; rfl, ?_⟩
      refine r_ldc (v := -9999003) (pc := 11) (tG 411 (by decide +kernel) (by decide +kernel)) dL_tryBack_11 ?_
      exact p_ireturnW (pc := 13) rfl rfl rfl dL_tryBack_13 (by decide) (by decide) rfl (tV_x k3 rfl k1 k2)
    | k + 2, k3, k4 => cases k4
end WRAP
theorem lkw_97 : LkSW RL 97 mL_tryAppend [(0, 5, 6, 20), (0, 5, 10, 31)] 2 := ⟨(tG 309 (by decide +kernel) (by decide +kernel)), (tG 310 (by decide +kernel) (by decide +kernel)), (tG 17 (by decide +kernel) (by decide +kernel)), (tG 311 (by decide +kernel) (by decide +kernel)), by decide +kernel, by decide +kernel, by decide⟩
theorem lkw_103 : LkSW RL 103 mL_tryLoad [(0, 4, 5, 31)] 1 := ⟨(tG 412 (by decide +kernel) (by decide +kernel)), (tG 413 (by decide +kernel) (by decide +kernel)), (tG 17 (by decide +kernel) (by decide +kernel)), (tG 414 (by decide +kernel) (by decide +kernel)), by decide +kernel, by decide +kernel, by decide⟩
theorem lkw_107 : LkSW RL 107 mL_tryAbout [(0, 5, 6, 20)] 2 := ⟨(tG 670 (by decide +kernel) (by decide +kernel)), (tG 671 (by decide +kernel) (by decide +kernel)), (tG 17 (by decide +kernel) (by decide +kernel)), (tG 672 (by decide +kernel) (by decide +kernel)), by decide +kernel, by decide +kernel, by decide⟩
theorem lkw_110 : LkSW RL 110 mL_trySpot [(0, 7, 8, 13), (0, 7, 13, 20)] 4 := ⟨(tG 698 (by decide +kernel) (by decide +kernel)), (tG 699 (by decide +kernel) (by decide +kernel)), (tG 17 (by decide +kernel) (by decide +kernel)), (tG 700 (by decide +kernel) (by decide +kernel)), by decide +kernel, by decide +kernel, by decide⟩
theorem lkw_114 : LkSW RL 114 mL_tryPlace [(0, 6, 7, 13), (0, 6, 11, 20)] 3 := ⟨(tG 735 (by decide +kernel) (by decide +kernel)), (tG 736 (by decide +kernel) (by decide +kernel)), (tG 17 (by decide +kernel) (by decide +kernel)), (tG 737 (by decide +kernel) (by decide +kernel)), by decide +kernel, by decide +kernel, by decide⟩
theorem lkw_118 : LkSW RL 118 mL_tryTile [(0, 6, 7, 13), (0, 6, 11, 20)] 3 := ⟨(tG 747 (by decide +kernel) (by decide +kernel)), (tG 748 (by decide +kernel) (by decide +kernel)), (tG 17 (by decide +kernel) (by decide +kernel)), (tG 749 (by decide +kernel) (by decide +kernel)), by decide +kernel, by decide +kernel, by decide⟩
theorem lkw_121 : LkSW RL 121 mL_tryBegin [(0, 6, 7, 20)] 3 := ⟨(tG 764 (by decide +kernel) (by decide +kernel)), (tG 765 (by decide +kernel) (by decide +kernel)), (tG 17 (by decide +kernel) (by decide +kernel)), (tG 766 (by decide +kernel) (by decide +kernel)), by decide +kernel, by decide +kernel, by decide⟩
theorem lkw_124 : LkSW RL 124 mL_tryGrey [(0, 7, 8, 13), (0, 7, 13, 20)] 4 := ⟨(tG 786 (by decide +kernel) (by decide +kernel)), (tG 787 (by decide +kernel) (by decide +kernel)), (tG 17 (by decide +kernel) (by decide +kernel)), (tG 788 (by decide +kernel) (by decide +kernel)), by decide +kernel, by decide +kernel, by decide⟩
theorem lkw_127 : LkSW RL 127 mL_tryFade [(0, 6, 7, 20)] 3 := ⟨(tG 796 (by decide +kernel) (by decide +kernel)), (tG 797 (by decide +kernel) (by decide +kernel)), (tG 17 (by decide +kernel) (by decide +kernel)), (tG 798 (by decide +kernel) (by decide +kernel)), by decide +kernel, by decide +kernel, by decide⟩
theorem lkw_130 : LkSW RL 130 mL_tryTurn [(0, 5, 6, 13), (0, 5, 10, 31)] 2 := ⟨(tG 804 (by decide +kernel) (by decide +kernel)), (tG 805 (by decide +kernel) (by decide +kernel)), (tG 17 (by decide +kernel) (by decide +kernel)), (tG 806 (by decide +kernel) (by decide +kernel)), by decide +kernel, by decide +kernel, by decide⟩
theorem lkw_133 : LkSW RL 133 mL_trySwap [(0, 6, 7, 13), (0, 6, 11, 20), (0, 6, 15, 31)] 3 := ⟨(tG 814 (by decide +kernel) (by decide +kernel)), (tG 815 (by decide +kernel) (by decide +kernel)), (tG 17 (by decide +kernel) (by decide +kernel)), (tG 816 (by decide +kernel) (by decide +kernel)), by decide +kernel, by decide +kernel, by decide⟩
theorem lkw_136 : LkSW RL 136 mL_tryFlip [(0, 6, 7, 13), (0, 6, 11, 31)] 3 := ⟨(tG 824 (by decide +kernel) (by decide +kernel)), (tG 825 (by decide +kernel) (by decide +kernel)), (tG 17 (by decide +kernel) (by decide +kernel)), (tG 826 (by decide +kernel) (by decide +kernel)), by decide +kernel, by decide +kernel, by decide⟩
theorem lkw_139 : LkSW RL 139 mL_tryImprove [(0, 5, 6, 20)] 2 := ⟨(tG 835 (by decide +kernel) (by decide +kernel)), (tG 836 (by decide +kernel) (by decide +kernel)), (tG 17 (by decide +kernel) (by decide +kernel)), (tG 837 (by decide +kernel) (by decide +kernel)), by decide +kernel, by decide +kernel, by decide⟩
theorem lkw_142 : LkSW RL 142 mL_tryUndo [(0, 4, 5, 31)] 1 := ⟨(tG 847 (by decide +kernel) (by decide +kernel)), (tG 848 (by decide +kernel) (by decide +kernel)), (tG 17 (by decide +kernel) (by decide +kernel)), (tG 849 (by decide +kernel) (by decide +kernel)), by decide +kernel, by decide +kernel, by decide⟩
theorem lkw_145 : LkSW RL 145 mL_tryGain [(0, 5, 6, 20)] 2 := ⟨(tG 868 (by decide +kernel) (by decide +kernel)), (tG 869 (by decide +kernel) (by decide +kernel)), (tG 17 (by decide +kernel) (by decide +kernel)), (tG 870 (by decide +kernel) (by decide +kernel)), by decide +kernel, by decide +kernel, by decide⟩
theorem lkw_148 : LkSW RL 148 mL_tryBest [(0, 5, 6, 20)] 2 := ⟨(tG 894 (by decide +kernel) (by decide +kernel)), (tG 895 (by decide +kernel) (by decide +kernel)), (tG 17 (by decide +kernel) (by decide +kernel)), (tG 896 (by decide +kernel) (by decide +kernel)), by decide +kernel, by decide +kernel, by decide⟩
theorem lkw_151 : LkSW RL 151 mL_tryIf [(0, 6, 7, 20)] 3 := ⟨(tG 903 (by decide +kernel) (by decide +kernel)), (tG 904 (by decide +kernel) (by decide +kernel)), (tG 17 (by decide +kernel) (by decide +kernel)), (tG 905 (by decide +kernel) (by decide +kernel)), by decide +kernel, by decide +kernel, by decide⟩
theorem lkw_154 : LkSW RL 154 mL_tryWorst [(0, 5, 6, 13)] 2 := ⟨(tG 911 (by decide +kernel) (by decide +kernel)), (tG 912 (by decide +kernel) (by decide +kernel)), (tG 17 (by decide +kernel) (by decide +kernel)), (tG 913 (by decide +kernel) (by decide +kernel)), by decide +kernel, by decide +kernel, by decide⟩
theorem lkw_157 : LkSW RL 157 mL_tryFits [(0, 5, 6, 13)] 2 := ⟨(tG 927 (by decide +kernel) (by decide +kernel)), (tG 928 (by decide +kernel) (by decide +kernel)), (tG 17 (by decide +kernel) (by decide +kernel)), (tG 929 (by decide +kernel) (by decide +kernel)), by decide +kernel, by decide +kernel, by decide⟩
theorem lkw_160 : LkSW RL 160 mL_tryKeep [(0, 5, 6, 13)] 2 := ⟨(tG 938 (by decide +kernel) (by decide +kernel)), (tG 939 (by decide +kernel) (by decide +kernel)), (tG 17 (by decide +kernel) (by decide +kernel)), (tG 940 (by decide +kernel) (by decide +kernel)), by decide +kernel, by decide +kernel, by decide⟩
theorem lkw_163 : LkSW RL 163 mL_tryBack [(0, 5, 6, 13), (0, 5, 10, 31)] 2 := ⟨(tG 955 (by decide +kernel) (by decide +kernel)), (tG 956 (by decide +kernel) (by decide +kernel)), (tG 17 (by decide +kernel) (by decide +kernel)), (tG 957 (by decide +kernel) (by decide +kernel)), by decide +kernel, by decide +kernel, by decide⟩
theorem lkw_172 : LkSW RL 172 mL_holds [(0, 6, 7, 13)] 3 := ⟨(tG 968 (by decide +kernel) (by decide +kernel)), (tG 969 (by decide +kernel) (by decide +kernel)), (tG 17 (by decide +kernel) (by decide +kernel)), (tG 970 (by decide +kernel) (by decide +kernel)), by decide +kernel, by decide +kernel, by decide⟩
theorem lkw_176 : LkSW RL 176 mL_doScript [(0, 6, 7, 20)] 3 := ⟨(tG 975 (by decide +kernel) (by decide +kernel)), (tG 976 (by decide +kernel) (by decide +kernel)), (tG 17 (by decide +kernel) (by decide +kernel)), (tG 977 (by decide +kernel) (by decide +kernel)), by decide +kernel, by decide +kernel, by decide⟩
theorem lkw_182 : LkSW RL 182 mL_doSimulate [(0, 6, 7, 20)] 3 := ⟨(tG 1000 (by decide +kernel) (by decide +kernel)), (tG 1001 (by decide +kernel) (by decide +kernel)), (tG 17 (by decide +kernel) (by decide +kernel)), (tG 1002 (by decide +kernel) (by decide +kernel)), by decide +kernel, by decide +kernel, by decide⟩
