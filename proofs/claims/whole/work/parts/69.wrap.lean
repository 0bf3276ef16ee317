/-- what a wrapper of the law owes: which exception, the world behind, the answer in the row at 172 -/
def tLw (M : Mem) (r : RA) : TG := tP (some (.int (nI r.1))) (fun Mf => FACE Mf r.2.2 ∧ (∀ i, 164 ≤ i → i ≠ 172 → Mf i = M i) ∧ ∃ g, Mf 172 = some (cJ 1 g) ∧ (r.1 = 0 → g 0 = r.2.1.toInt64))
theorem tLw_x {M M1 : Mem} {r : RA} {f : Nat → Int64} {k : Nat} (hk : r.1 = k) (h1 : FACE M1 r.2.2) (h2 : ∀ i, 164 ≤ i → M1 i = M i) (hu : M 172 = some (cJ 1 f)) (h0 : k ≠ 0) : tLw M r (.inl (some (.int (nI k)))) M1 := ⟨by rw [hk], h1, fun i a _ => h2 i a, f, (h2 172 (by decide)).trans hu, fun q => absurd (hk.symm.trans q) h0⟩
theorem tLw_o {M M1 : Mem} {r : RA} {f : Nat → Int64} (hk : r.1 = 0) (h1 : FACE M1 r.2.2) (h2 : ∀ i, 164 ≤ i → M1 i = M i) : tLw M r (.inl (some (.int (nI 0)))) (mset M1 172 (cJ 1 (vp_updL f (nI 0).toNatClampNeg r.2.1.toInt64))) := ⟨by rw [hk], h1.ext (fun i a => mset_ne (by omega)), fun i a b => (mset_ne b).trans (h2 i a), _, mset_same, fun _ => rfl⟩
theorem in01 : vp_in (nI 0) 1 := by
  unfold vp_in
  decide
section WRAP
variable {M : Mem} {w : WS} {f : Nat → Int64}
theorem sL_append (hF : FACE M w) (hO : WOK w) (hu : M 172 = some (cJ 1 f)) {x : Int32} : SpecW mL_append [(0, 9, 12, 13), (0, 9, 15, 15)] 9 1 6 [.ref 0, .int x, .ref 172] M (tLw M (A_append x w)) := by
  refine SpecW_of [some (.ref 0), some (.int x), some (.ref 172), none] (by decide) (Nat.le_of_ble_eq_true rfl) rfl ?_
  have h0 : M 0 = some (cO 6 [.ref 1, .ref 23, .ref 45, .ref 145, .ref 162]) := hF.1
  refine r_aload2 (pc := 0) dL_append_0 ?_
  refine n_iconst_0 (pc := 1) dL_append_1 ?_
  refine r_aload0 (pc := 2) dL_append_2 ?_
  refine r_iload1 (pc := 3) dL_append_3 ?_
  refine G_callX (pc := 4) (as := [.int x]) (rest := [.int (nI 0), .ref 172]) rfl rfl lk_L_7 dL_append_4 h0 (s7_append hF hO) (by decide) rfl (by decide) (by decide) (fun r1 M1 h1 => ?_) (fun E M1 h1 => ?_)
  · obtain ⟨k1, k2, k3, k4⟩ := h1
    subst k4
    change G mL_append 9 (.inr (.inr [(0, 9, 12, 13), (0, 9, 15, 15)])) 1 6 (tLw M (A_append x w)) none 1 6 7 [some (.ref 0), some (.int x), some (.ref 172), none] [.int (A_append x w).2.1, .int (nI 0), .ref 172] M1
    refine r_i2l (pc := 7) dL_append_7 ?_
    refine r_last (pc := 8) dL_append_8 ((k2 172 (by decide)).trans hu) in01 ?_
    refine r_goto (pc := 9) 18 (by decide) dL_append_9 ?_
    refine n_iconst_0 (pc := 18) dL_append_18 ?_
    exact p_ireturnW (pc := 19) rfl rfl rfl dL_append_19 (by decide) (by decide) rfl (tLw_o k3 k1 k2)
  · obtain ⟨k1, k2, k, k3, k4⟩ := h1
    match k, k3, k4 with
    | 0, k3, k4 =>
      cases k4
      refine ⟨12, 3, 13, ⟨[], (0, 9, 12, 13), [(0, 9, 15, 15)], rfl, rfl, by decide, by decide, (tG 480 (by decide +kernel) (by decide +kernel)), by decide +kernel, (fun z hz => by cases hz)⟩, Or.inl ⟨3, dL_append_12, rfl, rfl⟩, by decide, fun j hj => by have h9 : j = 2 := (by omega); subst h9; rfl, ?_⟩
      refine n_iconst_1 (pc := 13) dL_append_13 ?_
      exact p_ireturnW (pc := 14) rfl rfl rfl dL_append_14 (by decide) (by decide) rfl (tLw_x k3 k1 k2 hu (by decide))
    | 1, k3, k4 =>
      cases k4
      refine ⟨15, 3, 16, ⟨[(0, 9, 12, 13)], (0, 9, 15, 15), [], rfl, rfl, by decide, by decide, (tG 481 (by decide +kernel) (by decide +kernel)), by decide +kernel, (fun z hz => by
          simp only [List.mem_cons, List.not_mem_nil, or_false] at hz
          subst hz
          exact ⟨by decide, xIAE, (tG 480 (by decide +kernel) (by decide +kernel)), by decide +kernel⟩)⟩, Or.inl ⟨3, dL_append_15, rfl, rfl⟩, by decide, fun j hj => by have h9 : j = 2 := (by omega); subst h9; rfl, ?_⟩
      refine n_iconst_2 (pc := 16) dL_append_16 ?_
      exact p_ireturnW (pc := 17) rfl rfl rfl dL_append_17 (by decide) (by decide) rfl (tLw_x k3 k1 k2 hu (by decide))
    | k + 2, k3, k4 => cases k4
theorem sL_load (hF : FACE M w) (hO : WOK w) (hu : M 172 = some (cJ 1 f)) : SpecW mL_load [(0, 8, 11, 15)] 9 1 6 [.ref 0, .ref 172] M (tLw M (A_load w)) := by
  refine SpecW_of [some (.ref 0), some (.ref 172), none] (by decide) (Nat.le_of_ble_eq_true rfl) rfl ?_
  have h0 : M 0 = some (cO 6 [.ref 1, .ref 23, .ref 45, .ref 145, .ref 162]) := hF.1
  refine r_aload1 (pc := 0) dL_load_0 ?_
  refine n_iconst_0 (pc := 1) dL_load_1 ?_
  refine r_aload0 (pc := 2) dL_load_2 ?_
  refine G_callX (pc := 3) (as := []) (rest := [.int (nI 0), .ref 172]) rfl rfl lk_L_17 dL_load_3 h0 (s7_load hF hO) (by decide) rfl (by decide) (by decide) (fun r1 M1 h1 => ?_) (fun E M1 h1 => ?_)
  · obtain ⟨k1, k2, k3, k4⟩ := h1
    subst k4
    change G mL_load 9 (.inr (.inr [(0, 8, 11, 15)])) 1 6 (tLw M (A_load w)) none 1 6 6 [some (.ref 0), some (.ref 172), none] [.int (A_load w).2.1, .int (nI 0), .ref 172] M1
    refine r_i2l (pc := 6) dL_load_6 ?_
    refine r_last (pc := 7) dL_load_7 ((k2 172 (by decide)).trans hu) in01 ?_
    refine r_goto (pc := 8) 14 (by decide) dL_load_8 ?_
    refine n_iconst_0 (pc := 14) dL_load_14 ?_
    exact p_ireturnW (pc := 15) rfl rfl rfl dL_load_15 (by decide) (by decide) rfl (tLw_o k3 k1 k2)
  · obtain ⟨k1, k2, k, k3, k4⟩ := h1
    match k, k3, k4 with
    | 0, k3, k4 =>
      cases k4
      refine ⟨11, 2, 12, ⟨[], (0, 8, 11, 15), [], rfl, rfl, by decide, by decide, (tG 481 (by decide +kernel) (by decide +kernel)), by decide +kernel, (fun z hz => by cases hz)⟩, Or.inl ⟨2, dL_load_11, rfl, rfl⟩, by decide, fun j hj => by have h9 : j = 1 := (by omega); subst h9; rfl, ?_⟩
      refine n_iconst_1 (pc := 12) dL_load_12 ?_
      exact p_ireturnW (pc := 13) rfl rfl rfl dL_load_13 (by decide) (by decide) rfl (tLw_x k3 k1 k2 hu (by decide))
    | k + 1, k3, k4 => cases k4
theorem sL_about (hF : FACE M w) (hO : WOK w) (hu : M 172 = some (cJ 1 f)) {x : Int32} : SpecW mL_about [(0, 9, 12, 13)] 9 1 6 [.ref 0, .int x, .ref 172] M (tLw M (A_about x w)) := by
  refine SpecW_of [some (.ref 0), some (.int x), some (.ref 172), none] (by decide) (Nat.le_of_ble_eq_true rfl) rfl ?_
  have h0 : M 0 = some (cO 6 [.ref 1, .ref 23, .ref 45, .ref 145, .ref 162]) := hF.1
  refine r_aload2 (pc := 0) dL_about_0 ?_
  refine n_iconst_0 (pc := 1) dL_about_1 ?_
  refine r_aload0 (pc := 2) dL_about_2 ?_
  refine r_iload1 (pc := 3) dL_about_3 ?_
  refine G_callX (pc := 4) (as := [.int x]) (rest := [.int (nI 0), .ref 172]) rfl rfl lk_L_21 dL_about_4 h0 (s7_about hF hO) (by decide) rfl (by decide) (by decide) (fun r1 M1 h1 => ?_) (fun E M1 h1 => ?_)
  · obtain ⟨k1, k2, k3, k4⟩ := h1
    subst k4
    change G mL_about 9 (.inr (.inr [(0, 9, 12, 13)])) 1 6 (tLw M (A_about x w)) none 1 6 7 [some (.ref 0), some (.int x), some (.ref 172), none] [.int (A_about x w).2.1, .int (nI 0), .ref 172] M1
    refine r_i2l (pc := 7) dL_about_7 ?_
    refine r_last (pc := 8) dL_about_8 ((k2 172 (by decide)).trans hu) in01 ?_
    refine r_goto (pc := 9) 15 (by decide) dL_about_9 ?_
    refine n_iconst_0 (pc := 15) dL_about_15 ?_
    exact p_ireturnW (pc := 16) rfl rfl rfl dL_about_16 (by decide) (by decide) rfl (tLw_o k3 k1 k2)
  · obtain ⟨k1, k2, k, k3, k4⟩ := h1
    match k, k3, k4 with
    | 0, k3, k4 =>
      cases k4
      refine ⟨12, 3, 13, ⟨[], (0, 9, 12, 13), [], rfl, rfl, by decide, by decide, (tG 480 (by decide +kernel) (by decide +kernel)), by decide +kernel, (fun z hz => by cases hz)⟩, Or.inl ⟨3, dL_about_12, rfl, rfl⟩, by decide, fun j hj => by have h9 : j = 2 := (by omega); subst h9; rfl, ?_⟩
      refine n_iconst_1 (pc := 13) dL_about_13 ?_
      exact p_ireturnW (pc := 14) rfl rfl rfl dL_about_14 (by decide) (by decide) rfl (tLw_x k3 k1 k2 hu (by decide))
    | k + 1, k3, k4 => cases k4
theorem sL_square (hF : FACE M w) (hO : WOK w) (hu : M 172 = some (cJ 1 f)) {x : Int32} {y : Int32} {g : Int32} : SpecW mL_square [(0, 12, 15, 28), (0, 12, 19, 13)] 9 1 6 [.ref 0, .int x, .int y, .int g, .ref 172] M (tLw M (A_square x y g w)) := by
  refine SpecW_of [some (.ref 0), some (.int x), some (.int y), some (.int g), some (.ref 172), none] (by decide) (Nat.le_of_ble_eq_true rfl) rfl ?_
  have h0 : M 0 = some (cO 6 [.ref 1, .ref 23, .ref 45, .ref 145, .ref 162]) := hF.1
  refine r_aload4 (pc := 0) dL_square_0 ?_
  refine n_iconst_0 (pc := 2) dL_square_2 ?_
  refine r_aload0 (pc := 3) dL_square_3 ?_
  refine r_iload1 (pc := 4) dL_square_4 ?_
  refine r_iload2 (pc := 5) dL_square_5 ?_
  refine r_iload3 (pc := 6) dL_square_6 ?_
  refine G_callX (pc := 7) (as := [.int x, .int y, .int g]) (rest := [.int (nI 0), .ref 172]) rfl rfl lk_L_24 dL_square_7 h0 (s7_square hF hO) (by decide) rfl (by decide) (by decide) (fun r1 M1 h1 => ?_) (fun E M1 h1 => ?_)
  · obtain ⟨k1, k2, k3, k4⟩ := h1
    subst k4
    change G mL_square 9 (.inr (.inr [(0, 12, 15, 28), (0, 12, 19, 13)])) 1 6 (tLw M (A_square x y g w)) none 1 6 10 [some (.ref 0), some (.int x), some (.int y), some (.int g), some (.ref 172), none] [.int (A_square x y g w).2.1, .int (nI 0), .ref 172] M1
    refine r_i2l (pc := 10) dL_square_10 ?_
    refine r_last (pc := 11) dL_square_11 ((k2 172 (by decide)).trans hu) in01 ?_
    refine r_goto (pc := 12) 23 (by decide) dL_square_12 ?_
    refine n_iconst_0 (pc := 23) dL_square_23 ?_
    exact p_ireturnW (pc := 24) rfl rfl rfl dL_square_24 (by decide) (by decide) rfl (tLw_o k3 k1 k2)
  · obtain ⟨k1, k2, k, k3, k4⟩ := h1
    match k, k3, k4 with
    | 0, k3, k4 =>
      cases k4
      refine ⟨15, 5, 17, ⟨[], (0, 12, 15, 28), [(0, 12, 19, 13)], rfl, rfl, by decide, by decide, (tG 749 (by decide +kernel) (by decide +kernel)), by decide +kernel, (fun z hz => by cases hz)⟩, Or.inr ⟨dL_square_15, rfl⟩, by decide, fun j hj => by have h9 : j = 4 := (by omega); subst h9; rfl, ?_⟩
      refine n_iconst_1 (pc := 17) dL_square_17 ?_
      exact p_ireturnW (pc := 18) rfl rfl rfl dL_square_18 (by decide) (by decide) rfl (tLw_x k3 k1 k2 hu (by decide))
    | 1, k3, k4 =>
      cases k4
      refine ⟨19, 5, 21, ⟨[(0, 12, 15, 28)], (0, 12, 19, 13), [], rfl, rfl, by decide, by decide, (tG 480 (by decide +kernel) (by decide +kernel)), by decide +kernel, (fun z hz => by
          simp only [List.mem_cons, List.not_mem_nil, or_false] at hz
          subst hz
          exact ⟨by decide, xIOB, (tG 749 (by decide +kernel) (by decide +kernel)), by decide +kernel⟩)⟩, Or.inr ⟨dL_square_19, rfl⟩, by decide, fun j hj => by have h9 : j = 4 := (by omega); subst h9; rfl, ?_⟩
      refine n_iconst_2 (pc := 21) dL_square_21 ?_
      exact p_ireturnW (pc := 22) rfl rfl rfl dL_square_22 (by decide) (by decide) rfl (tLw_x k3 k1 k2 hu (by decide))
    | k + 2, k3, k4 => cases k4
theorem sL_place (hF : FACE M w) (hO : WOK w) (hu : M 172 = some (cJ 1 f)) {x : Int32} {y : Int32} : SpecW mL_place [(0, 10, 13, 28), (0, 10, 17, 13)] 9 1 6 [.ref 0, .int x, .int y, .ref 172] M (tLw M (A_place x y w)) := by
  refine SpecW_of [some (.ref 0), some (.int x), some (.int y), some (.ref 172), none] (by decide) (Nat.le_of_ble_eq_true rfl) rfl ?_
  have h0 : M 0 = some (cO 6 [.ref 1, .ref 23, .ref 45, .ref 145, .ref 162]) := hF.1
  refine r_aload3 (pc := 0) dL_place_0 ?_
  refine n_iconst_0 (pc := 1) dL_place_1 ?_
  refine r_aload0 (pc := 2) dL_place_2 ?_
  refine r_iload1 (pc := 3) dL_place_3 ?_
  refine r_iload2 (pc := 4) dL_place_4 ?_
  refine G_callX (pc := 5) (as := [.int x, .int y]) (rest := [.int (nI 0), .ref 172]) rfl rfl lk_L_30 dL_place_5 h0 (s7_place hF hO) (by decide) rfl (by decide) (by decide) (fun r1 M1 h1 => ?_) (fun E M1 h1 => ?_)
  · obtain ⟨k1, k2, k3, k4⟩ := h1
    subst k4
    change G mL_place 9 (.inr (.inr [(0, 10, 13, 28), (0, 10, 17, 13)])) 1 6 (tLw M (A_place x y w)) none 1 6 8 [some (.ref 0), some (.int x), some (.int y), some (.ref 172), none] [.int (A_place x y w).2.1, .int (nI 0), .ref 172] M1
    refine r_i2l (pc := 8) dL_place_8 ?_
    refine r_last (pc := 9) dL_place_9 ((k2 172 (by decide)).trans hu) in01 ?_
    refine r_goto (pc := 10) 21 (by decide) dL_place_10 ?_
    refine n_iconst_0 (pc := 21) dL_place_21 ?_
    exact p_ireturnW (pc := 22) rfl rfl rfl dL_place_22 (by decide) (by decide) rfl (tLw_o k3 k1 k2)
  · obtain ⟨k1, k2, k, k3, k4⟩ := h1
    match k, k3, k4 with
    | 0, k3, k4 =>
      cases k4
      refine ⟨13, 4, 15, ⟨[], (0, 10, 13, 28), [(0, 10, 17, 13)], rfl, rfl, by decide, by decide, (tG 749 (by decide +kernel) (by decide +kernel)), by decide +kernel, (fun z hz => by cases hz)⟩, Or.inr ⟨dL_place_13, rfl⟩, by decide, fun j hj => by have h9 : j = 3 := (by omega); subst h9; rfl, ?_⟩
      refine n_iconst_1 (pc := 15) dL_place_15 ?_
      exact p_ireturnW (pc := 16) rfl rfl rfl dL_place_16 (by decide) (by decide) rfl (tLw_x k3 k1 k2 hu (by decide))
    | 1, k3, k4 =>
      cases k4
      refine ⟨17, 4, 19, ⟨[(0, 10, 13, 28)], (0, 10, 17, 13), [], rfl, rfl, by decide, by decide, (tG 480 (by decide +kernel) (by decide +kernel)), by decide +kernel, (fun z hz => by
          simp only [List.mem_cons, List.not_mem_nil, or_false] at hz
          subst hz
          exact ⟨by decide, xIOB, (tG 749 (by decide +kernel) (by decide +kernel)), by decide +kernel⟩)⟩, Or.inr ⟨dL_place_17, rfl⟩, by decide, fun j hj => by have h9 : j = 3 := (by omega); subst h9; rfl, ?_⟩
      refine n_iconst_2 (pc := 19) dL_place_19 ?_
      exact p_ireturnW (pc := 20) rfl rfl rfl dL_place_20 (by decide) (by decide) rfl (tLw_x k3 k1 k2 hu (by decide))
    | k + 2, k3, k4 => cases k4
theorem sL_tile (hF : FACE M w) (hO : WOK w) (hu : M 172 = some (cJ 1 f)) {x : Int32} {y : Int32} : SpecW mL_tile [(0, 10, 13, 28), (0, 10, 17, 13)] 9 1 6 [.ref 0, .int x, .int y, .ref 172] M (tLw M (A_tile x y w)) := by
  refine SpecW_of [some (.ref 0), some (.int x), some (.int y), some (.ref 172), none] (by decide) (Nat.le_of_ble_eq_true rfl) rfl ?_
  have h0 : M 0 = some (cO 6 [.ref 1, .ref 23, .ref 45, .ref 145, .ref 162]) := hF.1
  refine r_aload3 (pc := 0) dL_tile_0 ?_
  refine n_iconst_0 (pc := 1) dL_tile_1 ?_
  refine r_aload0 (pc := 2) dL_tile_2 ?_
  refine r_iload1 (pc := 3) dL_tile_3 ?_
  refine r_iload2 (pc := 4) dL_tile_4 ?_
  refine G_callX (pc := 5) (as := [.int x, .int y]) (rest := [.int (nI 0), .ref 172]) rfl rfl lk_L_34 dL_tile_5 h0 (s7_tile hF hO) (by decide) rfl (by decide) (by decide) (fun r1 M1 h1 => ?_) (fun E M1 h1 => ?_)
  · obtain ⟨k1, k2, k3, k4⟩ := h1
    subst k4
    change G mL_tile 9 (.inr (.inr [(0, 10, 13, 28), (0, 10, 17, 13)])) 1 6 (tLw M (A_tile x y w)) none 1 6 8 [some (.ref 0), some (.int x), some (.int y), some (.ref 172), none] [.int (A_tile x y w).2.1, .int (nI 0), .ref 172] M1
    refine r_i2l (pc := 8) dL_tile_8 ?_
    refine r_last (pc := 9) dL_tile_9 ((k2 172 (by decide)).trans hu) in01 ?_
    refine r_goto (pc := 10) 21 (by decide) dL_tile_10 ?_
    refine n_iconst_0 (pc := 21) dL_tile_21 ?_
    exact p_ireturnW (pc := 22) rfl rfl rfl dL_tile_22 (by decide) (by decide) rfl (tLw_o k3 k1 k2)
  · obtain ⟨k1, k2, k, k3, k4⟩ := h1
    match k, k3, k4 with
    | 0, k3, k4 =>
      cases k4
      refine ⟨13, 4, 15, ⟨[], (0, 10, 13, 28), [(0, 10, 17, 13)], rfl, rfl, by decide, by decide, (tG 749 (by decide +kernel) (by decide +kernel)), by decide +kernel, (fun z hz => by cases hz)⟩, Or.inr ⟨dL_tile_13, rfl⟩, by decide, fun j hj => by have h9 : j = 3 := (by omega); subst h9; rfl, ?_⟩
      refine n_iconst_1 (pc := 15) dL_tile_15 ?_
      exact p_ireturnW (pc := 16) rfl rfl rfl dL_tile_16 (by decide) (by decide) rfl (tLw_x k3 k1 k2 hu (by decide))
    | 1, k3, k4 =>
      cases k4
      refine ⟨17, 4, 19, ⟨[(0, 10, 13, 28)], (0, 10, 17, 13), [], rfl, rfl, by decide, by decide, (tG 480 (by decide +kernel) (by decide +kernel)), by decide +kernel, (fun z hz => by
          simp only [List.mem_cons, List.not_mem_nil, or_false] at hz
          subst hz
          exact ⟨by decide, xIOB, (tG 749 (by decide +kernel) (by decide +kernel)), by decide +kernel⟩)⟩, Or.inr ⟨dL_tile_17, rfl⟩, by decide, fun j hj => by have h9 : j = 3 := (by omega); subst h9; rfl, ?_⟩
      refine n_iconst_2 (pc := 19) dL_tile_19 ?_
      exact p_ireturnW (pc := 20) rfl rfl rfl dL_tile_20 (by decide) (by decide) rfl (tLw_x k3 k1 k2 hu (by decide))
    | k + 2, k3, k4 => cases k4
theorem sL_begin (hF : FACE M w) (hO : WOK w) (hu : M 172 = some (cJ 1 f)) {x : Int32} {y : Int32} : SpecW mL_begin [(0, 10, 13, 13)] 9 1 6 [.ref 0, .int x, .int y, .ref 172] M (tLw M (A_begin x y w)) := by
  refine SpecW_of [some (.ref 0), some (.int x), some (.int y), some (.ref 172), none] (by decide) (Nat.le_of_ble_eq_true rfl) rfl ?_
  have h0 : M 0 = some (cO 6 [.ref 1, .ref 23, .ref 45, .ref 145, .ref 162]) := hF.1
  refine r_aload3 (pc := 0) dL_begin_0 ?_
  refine n_iconst_0 (pc := 1) dL_begin_1 ?_
  refine r_aload0 (pc := 2) dL_begin_2 ?_
  refine r_iload1 (pc := 3) dL_begin_3 ?_
  refine r_iload2 (pc := 4) dL_begin_4 ?_
  refine G_callX (pc := 5) (as := [.int x, .int y]) (rest := [.int (nI 0), .ref 172]) rfl rfl lk_L_37 dL_begin_5 h0 (s7_begin hF hO) (by decide) rfl (by decide) (by decide) (fun r1 M1 h1 => ?_) (fun E M1 h1 => ?_)
  · obtain ⟨k1, k2, k3, k4⟩ := h1
    subst k4
    change G mL_begin 9 (.inr (.inr [(0, 10, 13, 13)])) 1 6 (tLw M (A_begin x y w)) none 1 6 8 [some (.ref 0), some (.int x), some (.int y), some (.ref 172), none] [.int (A_begin x y w).2.1, .int (nI 0), .ref 172] M1
    refine r_i2l (pc := 8) dL_begin_8 ?_
    refine r_last (pc := 9) dL_begin_9 ((k2 172 (by decide)).trans hu) in01 ?_
    refine r_goto (pc := 10) 17 (by decide) dL_begin_10 ?_
    refine n_iconst_0 (pc := 17) dL_begin_17 ?_
    exact p_ireturnW (pc := 18) rfl rfl rfl dL_begin_18 (by decide) (by decide) rfl (tLw_o k3 k1 k2)
  · obtain ⟨k1, k2, k, k3, k4⟩ := h1
    match k, k3, k4 with
    | 0, k3, k4 =>
      cases k4
      refine ⟨13, 4, 15, ⟨[], (0, 10, 13, 13), [], rfl, rfl, by decide, by decide, (tG 480 (by decide +kernel) (by decide +kernel)), by decide +kernel, (fun z hz => by cases hz)⟩, Or.inr ⟨dL_begin_13, rfl⟩, by decide, fun j hj => by have h9 : j = 3 := (by omega); subst h9; rfl, ?_⟩
      refine n_iconst_1 (pc := 15) dL_begin_15 ?_
      exact p_ireturnW (pc := 16) rfl rfl rfl dL_begin_16 (by decide) (by decide) rfl (tLw_x k3 k1 k2 hu (by decide))
    | k + 1, k3, k4 => cases k4
theorem sL_grey (hF : FACE M w) (hO : WOK w) (hu : M 172 = some (cJ 1 f)) {x : Int32} {y : Int32} {g : Int32} : SpecW mL_grey [(0, 12, 15, 28), (0, 12, 19, 13)] 9 1 6 [.ref 0, .int x, .int y, .int g, .ref 172] M (tLw M (A_grey x y g w)) := by
  refine SpecW_of [some (.ref 0), some (.int x), some (.int y), some (.int g), some (.ref 172), none] (by decide) (Nat.le_of_ble_eq_true rfl) rfl ?_
  have h0 : M 0 = some (cO 6 [.ref 1, .ref 23, .ref 45, .ref 145, .ref 162]) := hF.1
  refine r_aload4 (pc := 0) dL_grey_0 ?_
  refine n_iconst_0 (pc := 2) dL_grey_2 ?_
  refine r_aload0 (pc := 3) dL_grey_3 ?_
  refine r_iload1 (pc := 4) dL_grey_4 ?_
  refine r_iload2 (pc := 5) dL_grey_5 ?_
  refine r_iload3 (pc := 6) dL_grey_6 ?_
  refine G_callX (pc := 7) (as := [.int x, .int y, .int g]) (rest := [.int (nI 0), .ref 172]) rfl rfl lk_L_40 dL_grey_7 h0 (s7_grey hF hO) (by decide) rfl (by decide) (by decide) (fun r1 M1 h1 => ?_) (fun E M1 h1 => ?_)
  · obtain ⟨k1, k2, k3, k4⟩ := h1
    subst k4
    change G mL_grey 9 (.inr (.inr [(0, 12, 15, 28), (0, 12, 19, 13)])) 1 6 (tLw M (A_grey x y g w)) none 1 6 10 [some (.ref 0), some (.int x), some (.int y), some (.int g), some (.ref 172), none] [.int (A_grey x y g w).2.1, .int (nI 0), .ref 172] M1
    refine r_i2l (pc := 10) dL_grey_10 ?_
    refine r_last (pc := 11) dL_grey_11 ((k2 172 (by decide)).trans hu) in01 ?_
    refine r_goto (pc := 12) 23 (by decide) dL_grey_12 ?_
    refine n_iconst_0 (pc := 23) dL_grey_23 ?_
    exact p_ireturnW (pc := 24) rfl rfl rfl dL_grey_24 (by decide) (by decide) rfl (tLw_o k3 k1 k2)
  · obtain ⟨k1, k2, k, k3, k4⟩ := h1
    match k, k3, k4 with
    | 0, k3, k4 =>
      cases k4
      refine ⟨15, 5, 17, ⟨[], (0, 12, 15, 28), [(0, 12, 19, 13)], rfl, rfl, by decide, by decide, (tG 749 (by decide +kernel) (by decide +kernel)), by decide +kernel, (fun z hz => by cases hz)⟩, Or.inr ⟨dL_grey_15, rfl⟩, by decide, fun j hj => by have h9 : j = 4 := (by omega); subst h9; rfl, ?_⟩
      refine n_iconst_1 (pc := 17) dL_grey_17 ?_
      exact p_ireturnW (pc := 18) rfl rfl rfl dL_grey_18 (by decide) (by decide) rfl (tLw_x k3 k1 k2 hu (by decide))
    | 1, k3, k4 =>
      cases k4
      refine ⟨19, 5, 21, ⟨[(0, 12, 15, 28)], (0, 12, 19, 13), [], rfl, rfl, by decide, by decide, (tG 480 (by decide +kernel) (by decide +kernel)), by decide +kernel, (fun z hz => by
          simp only [List.mem_cons, List.not_mem_nil, or_false] at hz
          subst hz
          exact ⟨by decide, xIOB, (tG 749 (by decide +kernel) (by decide +kernel)), by decide +kernel⟩)⟩, Or.inr ⟨dL_grey_19, rfl⟩, by decide, fun j hj => by have h9 : j = 4 := (by omega); subst h9; rfl, ?_⟩
      refine n_iconst_2 (pc := 21) dL_grey_21 ?_
      exact p_ireturnW (pc := 22) rfl rfl rfl dL_grey_22 (by decide) (by decide) rfl (tLw_x k3 k1 k2 hu (by decide))
    | k + 2, k3, k4 => cases k4
theorem sL_fade (hF : FACE M w) (hO : WOK w) (hu : M 172 = some (cJ 1 f)) {x : Int32} {y : Int32} : SpecW mL_fade [(0, 10, 13, 13)] 9 1 6 [.ref 0, .int x, .int y, .ref 172] M (tLw M (A_fade x y w)) := by
  refine SpecW_of [some (.ref 0), some (.int x), some (.int y), some (.ref 172), none] (by decide) (Nat.le_of_ble_eq_true rfl) rfl ?_
  have h0 : M 0 = some (cO 6 [.ref 1, .ref 23, .ref 45, .ref 145, .ref 162]) := hF.1
  refine r_aload3 (pc := 0) dL_fade_0 ?_
  refine n_iconst_0 (pc := 1) dL_fade_1 ?_
  refine r_aload0 (pc := 2) dL_fade_2 ?_
  refine r_iload1 (pc := 3) dL_fade_3 ?_
  refine r_iload2 (pc := 4) dL_fade_4 ?_
  refine G_callX (pc := 5) (as := [.int x, .int y]) (rest := [.int (nI 0), .ref 172]) rfl rfl lk_L_43 dL_fade_5 h0 (s7_fade hF hO) (by decide) rfl (by decide) (by decide) (fun r1 M1 h1 => ?_) (fun E M1 h1 => ?_)
  · obtain ⟨k1, k2, k3, k4⟩ := h1
    subst k4
    change G mL_fade 9 (.inr (.inr [(0, 10, 13, 13)])) 1 6 (tLw M (A_fade x y w)) none 1 6 8 [some (.ref 0), some (.int x), some (.int y), some (.ref 172), none] [.int (A_fade x y w).2.1, .int (nI 0), .ref 172] M1
    refine r_i2l (pc := 8) dL_fade_8 ?_
    refine r_last (pc := 9) dL_fade_9 ((k2 172 (by decide)).trans hu) in01 ?_
    refine r_goto (pc := 10) 17 (by decide) dL_fade_10 ?_
    refine n_iconst_0 (pc := 17) dL_fade_17 ?_
    exact p_ireturnW (pc := 18) rfl rfl rfl dL_fade_18 (by decide) (by decide) rfl (tLw_o k3 k1 k2)
  · obtain ⟨k1, k2, k, k3, k4⟩ := h1
    match k, k3, k4 with
    | 0, k3, k4 =>
      cases k4
      refine ⟨13, 4, 15, ⟨[], (0, 10, 13, 13), [], rfl, rfl, by decide, by decide, (tG 480 (by decide +kernel) (by decide +kernel)), by decide +kernel, (fun z hz => by cases hz)⟩, Or.inr ⟨dL_fade_13, rfl⟩, by decide, fun j hj => by have h9 : j = 3 := (by omega); subst h9; rfl, ?_⟩
      refine n_iconst_1 (pc := 15) dL_fade_15 ?_
      exact p_ireturnW (pc := 16) rfl rfl rfl dL_fade_16 (by decide) (by decide) rfl (tLw_x k3 k1 k2 hu (by decide))
    | k + 1, k3, k4 => cases k4
theorem sL_turn (hF : FACE M w) (hO : WOK w) (hu : M 172 = some (cJ 1 f)) {x : Int32} : SpecW mL_turn [(0, 9, 12, 28), (0, 9, 15, 15)] 9 1 6 [.ref 0, .int x, .ref 172] M (tLw M (A_turn x w)) := by
  refine SpecW_of [some (.ref 0), some (.int x), some (.ref 172), none] (by decide) (Nat.le_of_ble_eq_true rfl) rfl ?_
  have h0 : M 0 = some (cO 6 [.ref 1, .ref 23, .ref 45, .ref 145, .ref 162]) := hF.1
  refine r_aload2 (pc := 0) dL_turn_0 ?_
  refine n_iconst_0 (pc := 1) dL_turn_1 ?_
  refine r_aload0 (pc := 2) dL_turn_2 ?_
  refine r_iload1 (pc := 3) dL_turn_3 ?_
  refine G_callX (pc := 4) (as := [.int x]) (rest := [.int (nI 0), .ref 172]) rfl rfl lk_L_46 dL_turn_4 h0 (s7_turn hF hO) (by decide) rfl (by decide) (by decide) (fun r1 M1 h1 => ?_) (fun E M1 h1 => ?_)
  · obtain ⟨k1, k2, k3, k4⟩ := h1
    subst k4
    change G mL_turn 9 (.inr (.inr [(0, 9, 12, 28), (0, 9, 15, 15)])) 1 6 (tLw M (A_turn x w)) none 1 6 7 [some (.ref 0), some (.int x), some (.ref 172), none] [.int (A_turn x w).2.1, .int (nI 0), .ref 172] M1
    refine r_i2l (pc := 7) dL_turn_7 ?_
    refine r_last (pc := 8) dL_turn_8 ((k2 172 (by decide)).trans hu) in01 ?_
    refine r_goto (pc := 9) 18 (by decide) dL_turn_9 ?_
    refine n_iconst_0 (pc := 18) dL_turn_18 ?_
    exact p_ireturnW (pc := 19) rfl rfl rfl dL_turn_19 (by decide) (by decide) rfl (tLw_o k3 k1 k2)
  · obtain ⟨k1, k2, k, k3, k4⟩ := h1
    match k, k3, k4 with
    | 0, k3, k4 =>
      cases k4
      refine ⟨12, 3, 13, ⟨[], (0, 9, 12, 28), [(0, 9, 15, 15)], rfl, rfl, by decide, by decide, (tG 749 (by decide +kernel) (by decide +kernel)), by decide +kernel, (fun z hz => by cases hz)⟩, Or.inl ⟨3, dL_turn_12, rfl, rfl⟩, by decide, fun j hj => by have h9 : j = 2 := (by omega); subst h9; rfl, ?_⟩
      refine n_iconst_1 (pc := 13) dL_turn_13 ?_
      exact p_ireturnW (pc := 14) rfl rfl rfl dL_turn_14 (by decide) (by decide) rfl (tLw_x k3 k1 k2 hu (by decide))
    | 1, k3, k4 =>
      cases k4
      refine ⟨15, 3, 16, ⟨[(0, 9, 12, 28)], (0, 9, 15, 15), [], rfl, rfl, by decide, by decide, (tG 481 (by decide +kernel) (by decide +kernel)), by decide +kernel, (fun z hz => by
          simp only [List.mem_cons, List.not_mem_nil, or_false] at hz
          subst hz
          exact ⟨by decide, xIOB, (tG 749 (by decide +kernel) (by decide +kernel)), by decide +kernel⟩)⟩, Or.inl ⟨3, dL_turn_15, rfl, rfl⟩, by decide, fun j hj => by have h9 : j = 2 := (by omega); subst h9; rfl, ?_⟩
      refine n_iconst_2 (pc := 16) dL_turn_16 ?_
      exact p_ireturnW (pc := 17) rfl rfl rfl dL_turn_17 (by decide) (by decide) rfl (tLw_x k3 k1 k2 hu (by decide))
    | k + 2, k3, k4 => cases k4
theorem sL_swap (hF : FACE M w) (hO : WOK w) (hu : M 172 = some (cJ 1 f)) {x : Int32} {y : Int32} : SpecW mL_swap [(0, 10, 13, 28), (0, 10, 17, 13), (0, 10, 21, 15)] 9 1 6 [.ref 0, .int x, .int y, .ref 172] M (tLw M (A_swap x y w)) := by
  refine SpecW_of [some (.ref 0), some (.int x), some (.int y), some (.ref 172), none] (by decide) (Nat.le_of_ble_eq_true rfl) rfl ?_
  have h0 : M 0 = some (cO 6 [.ref 1, .ref 23, .ref 45, .ref 145, .ref 162]) := hF.1
  refine r_aload3 (pc := 0) dL_swap_0 ?_
  refine n_iconst_0 (pc := 1) dL_swap_1 ?_
  refine r_aload0 (pc := 2) dL_swap_2 ?_
  refine r_iload1 (pc := 3) dL_swap_3 ?_
  refine r_iload2 (pc := 4) dL_swap_4 ?_
  refine G_callX (pc := 5) (as := [.int x, .int y]) (rest := [.int (nI 0), .ref 172]) rfl rfl lk_L_49 dL_swap_5 h0 (s7_swap hF hO) (by decide) rfl (by decide) (by decide) (fun r1 M1 h1 => ?_) (fun E M1 h1 => ?_)
  · obtain ⟨k1, k2, k3, k4⟩ := h1
    subst k4
    change G mL_swap 9 (.inr (.inr [(0, 10, 13, 28), (0, 10, 17, 13), (0, 10, 21, 15)])) 1 6 (tLw M (A_swap x y w)) none 1 6 8 [some (.ref 0), some (.int x), some (.int y), some (.ref 172), none] [.int (A_swap x y w).2.1, .int (nI 0), .ref 172] M1
    refine r_i2l (pc := 8) dL_swap_8 ?_
    refine r_last (pc := 9) dL_swap_9 ((k2 172 (by decide)).trans hu) in01 ?_
    refine r_goto (pc := 10) 25 (by decide) dL_swap_10 ?_
    refine n_iconst_0 (pc := 25) dL_swap_25 ?_
    exact p_ireturnW (pc := 26) rfl rfl rfl dL_swap_26 (by decide) (by decide) rfl (tLw_o k3 k1 k2)
  · obtain ⟨k1, k2, k, k3, k4⟩ := h1
    match k, k3, k4 with
    | 0, k3, k4 =>
      cases k4
      refine ⟨13, 4, 15, ⟨[], (0, 10, 13, 28), [(0, 10, 17, 13), (0, 10, 21, 15)], rfl, rfl, by decide, by decide, (tG 749 (by decide +kernel) (by decide +kernel)), by decide +kernel, (fun z hz => by cases hz)⟩, Or.inr ⟨dL_swap_13, rfl⟩, by decide, fun j hj => by have h9 : j = 3 := (by omega); subst h9; rfl, ?_⟩
      refine n_iconst_1 (pc := 15) dL_swap_15 ?_
      exact p_ireturnW (pc := 16) rfl rfl rfl dL_swap_16 (by decide) (by decide) rfl (tLw_x k3 k1 k2 hu (by decide))
    | 1, k3, k4 =>
      cases k4
      refine ⟨17, 4, 19, ⟨[(0, 10, 13, 28)], (0, 10, 17, 13), [(0, 10, 21, 15)], rfl, rfl, by decide, by decide, (tG 480 (by decide +kernel) (by decide +kernel)), by decide +kernel, (fun z hz => by
          simp only [List.mem_cons, List.not_mem_nil, or_false] at hz
          subst hz
          exact ⟨by decide, xIOB, (tG 749 (by decide +kernel) (by decide +kernel)), by decide +kernel⟩)⟩, Or.inr ⟨dL_swap_17, rfl⟩, by decide, fun j hj => by have h9 : j = 3 := (by omega); subst h9; rfl, ?_⟩
      refine n_iconst_2 (pc := 19) dL_swap_19 ?_
      exact p_ireturnW (pc := 20) rfl rfl rfl dL_swap_20 (by decide) (by decide) rfl (tLw_x k3 k1 k2 hu (by decide))
    | 2, k3, k4 =>
      cases k4
      refine ⟨21, 4, 23, ⟨[(0, 10, 13, 28), (0, 10, 17, 13)], (0, 10, 21, 15), [], rfl, rfl, by decide, by decide, (tG 481 (by decide +kernel) (by decide +kernel)), by decide +kernel, (fun z hz => by
          simp only [List.mem_cons, List.not_mem_nil, or_false] at hz
          rcases hz with rfl | rfl
          · exact ⟨by decide, xIOB, (tG 749 (by decide +kernel) (by decide +kernel)), by decide +kernel⟩
          · exact ⟨by decide, xIAE, (tG 480 (by decide +kernel) (by decide +kernel)), by decide +kernel⟩)⟩, Or.inr ⟨dL_swap_21, rfl⟩, by decide, fun j hj => by have h9 : j = 3 := (by omega); subst h9; rfl, ?_⟩
      refine n_iconst_3 (pc := 23) dL_swap_23 ?_
      exact p_ireturnW (pc := 24) rfl rfl rfl dL_swap_24 (by decide) (by decide) rfl (tLw_x k3 k1 k2 hu (by decide))
    | k + 3, k3, k4 => cases k4
theorem sL_flip (hF : FACE M w) (hO : WOK w) (hu : M 172 = some (cJ 1 f)) {x : Int32} {y : Int32} : SpecW mL_flip [(0, 10, 13, 28), (0, 10, 17, 15)] 9 1 6 [.ref 0, .int x, .int y, .ref 172] M (tLw M (A_flip x y w)) := by
  refine SpecW_of [some (.ref 0), some (.int x), some (.int y), some (.ref 172), none] (by decide) (Nat.le_of_ble_eq_true rfl) rfl ?_
  have h0 : M 0 = some (cO 6 [.ref 1, .ref 23, .ref 45, .ref 145, .ref 162]) := hF.1
  refine r_aload3 (pc := 0) dL_flip_0 ?_
  refine n_iconst_0 (pc := 1) dL_flip_1 ?_
  refine r_aload0 (pc := 2) dL_flip_2 ?_
  refine r_iload1 (pc := 3) dL_flip_3 ?_
  refine r_iload2 (pc := 4) dL_flip_4 ?_
  refine G_callX (pc := 5) (as := [.int x, .int y]) (rest := [.int (nI 0), .ref 172]) rfl rfl lk_L_52 dL_flip_5 h0 (s7_flip hF hO) (by decide) rfl (by decide) (by decide) (fun r1 M1 h1 => ?_) (fun E M1 h1 => ?_)
  · obtain ⟨k1, k2, k3, k4⟩ := h1
    subst k4
    change G mL_flip 9 (.inr (.inr [(0, 10, 13, 28), (0, 10, 17, 15)])) 1 6 (tLw M (A_flip x y w)) none 1 6 8 [some (.ref 0), some (.int x), some (.int y), some (.ref 172), none] [.int (A_flip x y w).2.1, .int (nI 0), .ref 172] M1
    refine r_i2l (pc := 8) dL_flip_8 ?_
    refine r_last (pc := 9) dL_flip_9 ((k2 172 (by decide)).trans hu) in01 ?_
    refine r_goto (pc := 10) 21 (by decide) dL_flip_10 ?_
    refine n_iconst_0 (pc := 21) dL_flip_21 ?_
    exact p_ireturnW (pc := 22) rfl rfl rfl dL_flip_22 (by decide) (by decide) rfl (tLw_o k3 k1 k2)
  · obtain ⟨k1, k2, k, k3, k4⟩ := h1
    match k, k3, k4 with
    | 0, k3, k4 =>
      cases k4
      refine ⟨13, 4, 15, ⟨[], (0, 10, 13, 28), [(0, 10, 17, 15)], rfl, rfl, by decide, by decide, (tG 749 (by decide +kernel) (by decide +kernel)), by decide +kernel, (fun z hz => by cases hz)⟩, Or.inr ⟨dL_flip_13, rfl⟩, by decide, fun j hj => by have h9 : j = 3 := (by omega); subst h9; rfl, ?_⟩
      refine n_iconst_1 (pc := 15) dL_flip_15 ?_
      exact p_ireturnW (pc := 16) rfl rfl rfl dL_flip_16 (by decide) (by decide) rfl (tLw_x k3 k1 k2 hu (by decide))
    | 1, k3, k4 =>
      cases k4
      refine ⟨17, 4, 19, ⟨[(0, 10, 13, 28)], (0, 10, 17, 15), [], rfl, rfl, by decide, by decide, (tG 481 (by decide +kernel) (by decide +kernel)), by decide +kernel, (fun z hz => by
          simp only [List.mem_cons, List.not_mem_nil, or_false] at hz
          subst hz
          exact ⟨by decide, xIOB, (tG 749 (by decide +kernel) (by decide +kernel)), by decide +kernel⟩)⟩, Or.inr ⟨dL_flip_17, rfl⟩, by decide, fun j hj => by have h9 : j = 3 := (by omega); subst h9; rfl, ?_⟩
      refine n_iconst_2 (pc := 19) dL_flip_19 ?_
      exact p_ireturnW (pc := 20) rfl rfl rfl dL_flip_20 (by decide) (by decide) rfl (tLw_x k3 k1 k2 hu (by decide))
    | k + 2, k3, k4 => cases k4
theorem sL_hold (hF : FACE M w) (hO : WOK w) (hu : M 172 = some (cJ 1 f)) {x : Int32} {v : Bool} : SpecW mL_hold [(0, 10, 13, 28)] 9 1 6 [.ref 0, .int x, .int (bI v), .ref 172] M (tLw M (A_hold x v w)) := by
  refine SpecW_of [some (.ref 0), some (.int x), some (.int (bI v)), some (.ref 172), none] (by decide) (Nat.le_of_ble_eq_true rfl) rfl ?_
  have h0 : M 0 = some (cO 6 [.ref 1, .ref 23, .ref 45, .ref 145, .ref 162]) := hF.1
  refine r_aload3 (pc := 0) dL_hold_0 ?_
  refine n_iconst_0 (pc := 1) dL_hold_1 ?_
  refine r_aload0 (pc := 2) dL_hold_2 ?_
  refine r_iload1 (pc := 3) dL_hold_3 ?_
  refine r_iload2 (pc := 4) dL_hold_4 ?_
  refine G_callX (pc := 5) (as := [.int x, .int (bI v)]) (rest := [.int (nI 0), .ref 172]) rfl rfl lk_L_55 dL_hold_5 h0 (s7_hold hF hO) (by decide) rfl (by decide) (by decide) (fun r1 M1 h1 => ?_) (fun E M1 h1 => ?_)
  · obtain ⟨k1, k2, k3, k4⟩ := h1
    subst k4
    change G mL_hold 9 (.inr (.inr [(0, 10, 13, 28)])) 1 6 (tLw M (A_hold x v w)) none 1 6 8 [some (.ref 0), some (.int x), some (.int (bI v)), some (.ref 172), none] [.int (A_hold x v w).2.1, .int (nI 0), .ref 172] M1
    refine r_i2l (pc := 8) dL_hold_8 ?_
    refine r_last (pc := 9) dL_hold_9 ((k2 172 (by decide)).trans hu) in01 ?_
    refine r_goto (pc := 10) 17 (by decide) dL_hold_10 ?_
    refine n_iconst_0 (pc := 17) dL_hold_17 ?_
    exact p_ireturnW (pc := 18) rfl rfl rfl dL_hold_18 (by decide) (by decide) rfl (tLw_o k3 k1 k2)
  · obtain ⟨k1, k2, k, k3, k4⟩ := h1
    match k, k3, k4 with
    | 0, k3, k4 =>
      cases k4
      refine ⟨13, 4, 15, ⟨[], (0, 10, 13, 28), [], rfl, rfl, by decide, by decide, (tG 749 (by decide +kernel) (by decide +kernel)), by decide +kernel, (fun z hz => by cases hz)⟩, Or.inr ⟨dL_hold_13, rfl⟩, by decide, fun j hj => by have h9 : j = 3 := (by omega); subst h9; rfl, ?_⟩
      refine n_iconst_1 (pc := 15) dL_hold_15 ?_
      exact p_ireturnW (pc := 16) rfl rfl rfl dL_hold_16 (by decide) (by decide) rfl (tLw_x k3 k1 k2 hu (by decide))
    | k + 1, k3, k4 => cases k4
theorem sL_improve (hF : FACE M w) (hO : WOK w) (hu : M 172 = some (cJ 1 f)) {x : Int32} : SpecW mL_improve [(0, 9, 12, 13)] 9 1 6 [.ref 0, .int x, .ref 172] M (tLw M (A_improve x w)) := by
  refine SpecW_of [some (.ref 0), some (.int x), some (.ref 172), none] (by decide) (Nat.le_of_ble_eq_true rfl) rfl ?_
  have h0 : M 0 = some (cO 6 [.ref 1, .ref 23, .ref 45, .ref 145, .ref 162]) := hF.1
  refine r_aload2 (pc := 0) dL_improve_0 ?_
  refine n_iconst_0 (pc := 1) dL_improve_1 ?_
  refine r_aload0 (pc := 2) dL_improve_2 ?_
  refine r_iload1 (pc := 3) dL_improve_3 ?_
  refine G_callX (pc := 4) (as := [.int x]) (rest := [.int (nI 0), .ref 172]) rfl rfl lk_L_59 dL_improve_4 h0 (s7_improve hF hO) (by decide) rfl (by decide) (by decide) (fun r1 M1 h1 => ?_) (fun E M1 h1 => ?_)
  · obtain ⟨k1, k2, k3, k4⟩ := h1
    subst k4
    change G mL_improve 9 (.inr (.inr [(0, 9, 12, 13)])) 1 6 (tLw M (A_improve x w)) none 1 6 7 [some (.ref 0), some (.int x), some (.ref 172), none] [.int (A_improve x w).2.1, .int (nI 0), .ref 172] M1
    refine r_i2l (pc := 7) dL_improve_7 ?_
    refine r_last (pc := 8) dL_improve_8 ((k2 172 (by decide)).trans hu) in01 ?_
    refine r_goto (pc := 9) 15 (by decide) dL_improve_9 ?_
    refine n_iconst_0 (pc := 15) dL_improve_15 ?_
    exact p_ireturnW (pc := 16) rfl rfl rfl dL_improve_16 (by decide) (by decide) rfl (tLw_o k3 k1 k2)
  · obtain ⟨k1, k2, k, k3, k4⟩ := h1
    match k, k3, k4 with
    | 0, k3, k4 =>
      cases k4
      refine ⟨12, 3, 13, ⟨[], (0, 9, 12, 13), [], rfl, rfl, by decide, by decide, (tG 480 (by decide +kernel) (by decide +kernel)), by decide +kernel, (fun z hz => by cases hz)⟩, Or.inl ⟨3, dL_improve_12, rfl, rfl⟩, by decide, fun j hj => by have h9 : j = 2 := (by omega); subst h9; rfl, ?_⟩
      refine n_iconst_1 (pc := 13) dL_improve_13 ?_
      exact p_ireturnW (pc := 14) rfl rfl rfl dL_improve_14 (by decide) (by decide) rfl (tLw_x k3 k1 k2 hu (by decide))
    | k + 1, k3, k4 => cases k4
theorem sL_undo (hF : FACE M w) (hO : WOK w) (hu : M 172 = some (cJ 1 f)) : SpecW mL_undo [(0, 8, 11, 15)] 9 1 6 [.ref 0, .ref 172] M (tLw M (A_undo w)) := by
  refine SpecW_of [some (.ref 0), some (.ref 172), none] (by decide) (Nat.le_of_ble_eq_true rfl) rfl ?_
  have h0 : M 0 = some (cO 6 [.ref 1, .ref 23, .ref 45, .ref 145, .ref 162]) := hF.1
  refine r_aload1 (pc := 0) dL_undo_0 ?_
  refine n_iconst_0 (pc := 1) dL_undo_1 ?_
  refine r_aload0 (pc := 2) dL_undo_2 ?_
  refine G_callX (pc := 3) (as := []) (rest := [.int (nI 0), .ref 172]) rfl rfl lk_L_62 dL_undo_3 h0 (s7_undo hF hO) (by decide) rfl (by decide) (by decide) (fun r1 M1 h1 => ?_) (fun E M1 h1 => ?_)
  · obtain ⟨k1, k2, k3, k4⟩ := h1
    subst k4
    change G mL_undo 9 (.inr (.inr [(0, 8, 11, 15)])) 1 6 (tLw M (A_undo w)) none 1 6 6 [some (.ref 0), some (.ref 172), none] [.int (A_undo w).2.1, .int (nI 0), .ref 172] M1
    refine r_i2l (pc := 6) dL_undo_6 ?_
    refine r_last (pc := 7) dL_undo_7 ((k2 172 (by decide)).trans hu) in01 ?_
    refine r_goto (pc := 8) 14 (by decide) dL_undo_8 ?_
    refine n_iconst_0 (pc := 14) dL_undo_14 ?_
    exact p_ireturnW (pc := 15) rfl rfl rfl dL_undo_15 (by decide) (by decide) rfl (tLw_o k3 k1 k2)
  · obtain ⟨k1, k2, k, k3, k4⟩ := h1
    match k, k3, k4 with
    | 0, k3, k4 =>
      cases k4
      refine ⟨11, 2, 12, ⟨[], (0, 8, 11, 15), [], rfl, rfl, by decide, by decide, (tG 481 (by decide +kernel) (by decide +kernel)), by decide +kernel, (fun z hz => by cases hz)⟩, Or.inl ⟨2, dL_undo_11, rfl, rfl⟩, by decide, fun j hj => by have h9 : j = 1 := (by omega); subst h9; rfl, ?_⟩
      refine n_iconst_1 (pc := 12) dL_undo_12 ?_
      exact p_ireturnW (pc := 13) rfl rfl rfl dL_undo_13 (by decide) (by decide) rfl (tLw_x k3 k1 k2 hu (by decide))
    | k + 1, k3, k4 => cases k4
theorem sL_gain (hF : FACE M w) (hO : WOK w) (hu : M 172 = some (cJ 1 f)) {x : Int32} : SpecW mL_gain [(0, 9, 12, 13)] 9 1 6 [.ref 0, .int x, .ref 172] M (tLw M (A_gain x w)) := by
  refine SpecW_of [some (.ref 0), some (.int x), some (.ref 172), none] (by decide) (Nat.le_of_ble_eq_true rfl) rfl ?_
  have h0 : M 0 = some (cO 6 [.ref 1, .ref 23, .ref 45, .ref 145, .ref 162]) := hF.1
  refine r_aload2 (pc := 0) dL_gain_0 ?_
  refine n_iconst_0 (pc := 1) dL_gain_1 ?_
  refine r_aload0 (pc := 2) dL_gain_2 ?_
  refine r_iload1 (pc := 3) dL_gain_3 ?_
  refine G_callX (pc := 4) (as := [.int x]) (rest := [.int (nI 0), .ref 172]) rfl rfl lk_L_65 dL_gain_4 h0 (s7_gain hF hO) (by decide) rfl (by decide) (by decide) (fun r1 M1 h1 => ?_) (fun E M1 h1 => ?_)
  · obtain ⟨k1, k2, k3, k4⟩ := h1
    subst k4
    change G mL_gain 9 (.inr (.inr [(0, 9, 12, 13)])) 1 6 (tLw M (A_gain x w)) none 1 6 7 [some (.ref 0), some (.int x), some (.ref 172), none] [.int (A_gain x w).2.1, .int (nI 0), .ref 172] M1
    refine r_i2l (pc := 7) dL_gain_7 ?_
    refine r_last (pc := 8) dL_gain_8 ((k2 172 (by decide)).trans hu) in01 ?_
    refine r_goto (pc := 9) 15 (by decide) dL_gain_9 ?_
    refine n_iconst_0 (pc := 15) dL_gain_15 ?_
    exact p_ireturnW (pc := 16) rfl rfl rfl dL_gain_16 (by decide) (by decide) rfl (tLw_o k3 k1 k2)
  · obtain ⟨k1, k2, k, k3, k4⟩ := h1
    match k, k3, k4 with
    | 0, k3, k4 =>
      cases k4
      refine ⟨12, 3, 13, ⟨[], (0, 9, 12, 13), [], rfl, rfl, by decide, by decide, (tG 480 (by decide +kernel) (by decide +kernel)), by decide +kernel, (fun z hz => by cases hz)⟩, Or.inl ⟨3, dL_gain_12, rfl, rfl⟩, by decide, fun j hj => by have h9 : j = 2 := (by omega); subst h9; rfl, ?_⟩
      refine n_iconst_1 (pc := 13) dL_gain_13 ?_
      exact p_ireturnW (pc := 14) rfl rfl rfl dL_gain_14 (by decide) (by decide) rfl (tLw_x k3 k1 k2 hu (by decide))
    | k + 1, k3, k4 => cases k4
theorem sL_best (hF : FACE M w) (hO : WOK w) (hu : M 172 = some (cJ 1 f)) {x : Int32} : SpecW mL_best [(0, 9, 12, 13)] 9 1 6 [.ref 0, .int x, .ref 172] M (tLw M (A_best x w)) := by
  refine SpecW_of [some (.ref 0), some (.int x), some (.ref 172), none] (by decide) (Nat.le_of_ble_eq_true rfl) rfl ?_
  have h0 : M 0 = some (cO 6 [.ref 1, .ref 23, .ref 45, .ref 145, .ref 162]) := hF.1
  refine r_aload2 (pc := 0) dL_best_0 ?_
  refine n_iconst_0 (pc := 1) dL_best_1 ?_
  refine r_aload0 (pc := 2) dL_best_2 ?_
  refine r_iload1 (pc := 3) dL_best_3 ?_
  refine G_callX (pc := 4) (as := [.int x]) (rest := [.int (nI 0), .ref 172]) rfl rfl lk_L_68 dL_best_4 h0 (s7_best hF hO) (by decide) rfl (by decide) (by decide) (fun r1 M1 h1 => ?_) (fun E M1 h1 => ?_)
  · obtain ⟨k1, k2, k3, k4⟩ := h1
    subst k4
    change G mL_best 9 (.inr (.inr [(0, 9, 12, 13)])) 1 6 (tLw M (A_best x w)) none 1 6 7 [some (.ref 0), some (.int x), some (.ref 172), none] [.int (A_best x w).2.1, .int (nI 0), .ref 172] M1
    refine r_i2l (pc := 7) dL_best_7 ?_
    refine r_last (pc := 8) dL_best_8 ((k2 172 (by decide)).trans hu) in01 ?_
    refine r_goto (pc := 9) 15 (by decide) dL_best_9 ?_
    refine n_iconst_0 (pc := 15) dL_best_15 ?_
    exact p_ireturnW (pc := 16) rfl rfl rfl dL_best_16 (by decide) (by decide) rfl (tLw_o k3 k1 k2)
  · obtain ⟨k1, k2, k, k3, k4⟩ := h1
    match k, k3, k4 with
    | 0, k3, k4 =>
      cases k4
      refine ⟨12, 3, 13, ⟨[], (0, 9, 12, 13), [], rfl, rfl, by decide, by decide, (tG 480 (by decide +kernel) (by decide +kernel)), by decide +kernel, (fun z hz => by cases hz)⟩, Or.inl ⟨3, dL_best_12, rfl, rfl⟩, by decide, fun j hj => by have h9 : j = 2 := (by omega); subst h9; rfl, ?_⟩
      refine n_iconst_1 (pc := 13) dL_best_13 ?_
      exact p_ireturnW (pc := 14) rfl rfl rfl dL_best_14 (by decide) (by decide) rfl (tLw_x k3 k1 k2 hu (by decide))
    | k + 1, k3, k4 => cases k4
theorem sL_ifImproved (hF : FACE M w) (hO : WOK w) (hu : M 172 = some (cJ 1 f)) {x : Int32} {y : Int32} : SpecW mL_ifImproved [(0, 10, 13, 13)] 9 1 6 [.ref 0, .int x, .int y, .ref 172] M (tLw M (A_ifImproved x y w)) := by
  refine SpecW_of [some (.ref 0), some (.int x), some (.int y), some (.ref 172), none] (by decide) (Nat.le_of_ble_eq_true rfl) rfl ?_
  have h0 : M 0 = some (cO 6 [.ref 1, .ref 23, .ref 45, .ref 145, .ref 162]) := hF.1
  refine r_aload3 (pc := 0) dL_ifImproved_0 ?_
  refine n_iconst_0 (pc := 1) dL_ifImproved_1 ?_
  refine r_aload0 (pc := 2) dL_ifImproved_2 ?_
  refine r_iload1 (pc := 3) dL_ifImproved_3 ?_
  refine r_iload2 (pc := 4) dL_ifImproved_4 ?_
  refine G_callX (pc := 5) (as := [.int x, .int y]) (rest := [.int (nI 0), .ref 172]) rfl rfl lk_L_71 dL_ifImproved_5 h0 (s7_ifImproved hF hO) (by decide) rfl (by decide) (by decide) (fun r1 M1 h1 => ?_) (fun E M1 h1 => ?_)
  · obtain ⟨k1, k2, k3, k4⟩ := h1
    subst k4
    change G mL_ifImproved 9 (.inr (.inr [(0, 10, 13, 13)])) 1 6 (tLw M (A_ifImproved x y w)) none 1 6 8 [some (.ref 0), some (.int x), some (.int y), some (.ref 172), none] [.int (A_ifImproved x y w).2.1, .int (nI 0), .ref 172] M1
    refine r_i2l (pc := 8) dL_ifImproved_8 ?_
    refine r_last (pc := 9) dL_ifImproved_9 ((k2 172 (by decide)).trans hu) in01 ?_
    refine r_goto (pc := 10) 17 (by decide) dL_ifImproved_10 ?_
    refine n_iconst_0 (pc := 17) dL_ifImproved_17 ?_
    exact p_ireturnW (pc := 18) rfl rfl rfl dL_ifImproved_18 (by decide) (by decide) rfl (tLw_o k3 k1 k2)
  · obtain ⟨k1, k2, k, k3, k4⟩ := h1
    match k, k3, k4 with
    | 0, k3, k4 =>
      cases k4
      refine ⟨13, 4, 15, ⟨[], (0, 10, 13, 13), [], rfl, rfl, by decide, by decide, (tG 480 (by decide +kernel) (by decide +kernel)), by decide +kernel, (fun z hz => by cases hz)⟩, Or.inr ⟨dL_ifImproved_13, rfl⟩, by decide, fun j hj => by have h9 : j = 3 := (by omega); subst h9; rfl, ?_⟩
      refine n_iconst_1 (pc := 15) dL_ifImproved_15 ?_
      exact p_ireturnW (pc := 16) rfl rfl rfl dL_ifImproved_16 (by decide) (by decide) rfl (tLw_x k3 k1 k2 hu (by decide))
    | k + 1, k3, k4 => cases k4
theorem sL_worst (hF : FACE M w) (hO : WOK w) (hu : M 172 = some (cJ 1 f)) {x : Int32} : SpecW mL_worst [(0, 9, 12, 28)] 9 1 6 [.ref 0, .int x, .ref 172] M (tLw M (A_worst x w)) := by
  refine SpecW_of [some (.ref 0), some (.int x), some (.ref 172), none] (by decide) (Nat.le_of_ble_eq_true rfl) rfl ?_
  have h0 : M 0 = some (cO 6 [.ref 1, .ref 23, .ref 45, .ref 145, .ref 162]) := hF.1
  refine r_aload2 (pc := 0) dL_worst_0 ?_
  refine n_iconst_0 (pc := 1) dL_worst_1 ?_
  refine r_aload0 (pc := 2) dL_worst_2 ?_
  refine r_iload1 (pc := 3) dL_worst_3 ?_
  refine G_callX (pc := 4) (as := [.int x]) (rest := [.int (nI 0), .ref 172]) rfl rfl lk_L_74 dL_worst_4 h0 (s7_worst hF hO) (by decide) rfl (by decide) (by decide) (fun r1 M1 h1 => ?_) (fun E M1 h1 => ?_)
  · obtain ⟨k1, k2, k3, k4⟩ := h1
    subst k4
    change G mL_worst 9 (.inr (.inr [(0, 9, 12, 28)])) 1 6 (tLw M (A_worst x w)) none 1 6 7 [some (.ref 0), some (.int x), some (.ref 172), none] [.int (A_worst x w).2.1, .int (nI 0), .ref 172] M1
    refine r_i2l (pc := 7) dL_worst_7 ?_
    refine r_last (pc := 8) dL_worst_8 ((k2 172 (by decide)).trans hu) in01 ?_
    refine r_goto (pc := 9) 15 (by decide) dL_worst_9 ?_
    refine n_iconst_0 (pc := 15) dL_worst_15 ?_
    exact p_ireturnW (pc := 16) rfl rfl rfl dL_worst_16 (by decide) (by decide) rfl (tLw_o k3 k1 k2)
  · obtain ⟨k1, k2, k, k3, k4⟩ := h1
    match k, k3, k4 with
    | 0, k3, k4 =>
      cases k4
      refine ⟨12, 3, 13, ⟨[], (0, 9, 12, 28), [], rfl, rfl, by decide, by decide, (tG 749 (by decide +kernel) (by decide +kernel)), by decide +kernel, (fun z hz => by cases hz)⟩, Or.inl ⟨3, dL_worst_12, rfl, rfl⟩, by decide, fun j hj => by have h9 : j = 2 := (by omega); subst h9; rfl, ?_⟩
      refine n_iconst_1 (pc := 13) dL_worst_13 ?_
      exact p_ireturnW (pc := 14) rfl rfl rfl dL_worst_14 (by decide) (by decide) rfl (tLw_x k3 k1 k2 hu (by decide))
    | k + 1, k3, k4 => cases k4
theorem sL_fits (hF : FACE M w) (hO : WOK w) (hu : M 172 = some (cJ 1 f)) {x : Int32} : SpecW mL_fits [(0, 9, 12, 28)] 9 1 6 [.ref 0, .int x, .ref 172] M (tLw M (A_fits x w)) := by
  refine SpecW_of [some (.ref 0), some (.int x), some (.ref 172), none] (by decide) (Nat.le_of_ble_eq_true rfl) rfl ?_
  have h0 : M 0 = some (cO 6 [.ref 1, .ref 23, .ref 45, .ref 145, .ref 162]) := hF.1
  refine r_aload2 (pc := 0) dL_fits_0 ?_
  refine n_iconst_0 (pc := 1) dL_fits_1 ?_
  refine r_aload0 (pc := 2) dL_fits_2 ?_
  refine r_iload1 (pc := 3) dL_fits_3 ?_
  refine G_callX (pc := 4) (as := [.int x]) (rest := [.int (nI 0), .ref 172]) rfl rfl lk_L_77 dL_fits_4 h0 (s7_fits hF hO) (by decide) rfl (by decide) (by decide) (fun r1 M1 h1 => ?_) (fun E M1 h1 => ?_)
  · obtain ⟨k1, k2, k3, k4⟩ := h1
    subst k4
    change G mL_fits 9 (.inr (.inr [(0, 9, 12, 28)])) 1 6 (tLw M (A_fits x w)) none 1 6 7 [some (.ref 0), some (.int x), some (.ref 172), none] [.int (A_fits x w).2.1, .int (nI 0), .ref 172] M1
    refine r_i2l (pc := 7) dL_fits_7 ?_
    refine r_last (pc := 8) dL_fits_8 ((k2 172 (by decide)).trans hu) in01 ?_
    refine r_goto (pc := 9) 15 (by decide) dL_fits_9 ?_
    refine n_iconst_0 (pc := 15) dL_fits_15 ?_
    exact p_ireturnW (pc := 16) rfl rfl rfl dL_fits_16 (by decide) (by decide) rfl (tLw_o k3 k1 k2)
  · obtain ⟨k1, k2, k, k3, k4⟩ := h1
    match k, k3, k4 with
    | 0, k3, k4 =>
      cases k4
      refine ⟨12, 3, 13, ⟨[], (0, 9, 12, 28), [], rfl, rfl, by decide, by decide, (tG 749 (by decide +kernel) (by decide +kernel)), by decide +kernel, (fun z hz => by cases hz)⟩, Or.inl ⟨3, dL_fits_12, rfl, rfl⟩, by decide, fun j hj => by have h9 : j = 2 := (by omega); subst h9; rfl, ?_⟩
      refine n_iconst_1 (pc := 13) dL_fits_13 ?_
      exact p_ireturnW (pc := 14) rfl rfl rfl dL_fits_14 (by decide) (by decide) rfl (tLw_x k3 k1 k2 hu (by decide))
    | k + 1, k3, k4 => cases k4
theorem sL_runScript (hF : FACE M w) (hO : WOK w) (hu : M 172 = some (cJ 1 f)) {x : Int32} {s : Int64} : SpecW mL_runScript [(0, 11, 14, 13)] 9 1 6 [.ref 0, .int x, .long s, .ref 172] M (tLw M (A_runScript x s w)) := by
  refine SpecW_of [some (.ref 0), some (.int x), some (.long s), none, some (.ref 172), none] (by decide) (Nat.le_of_ble_eq_true rfl) rfl ?_
  have h0 : M 0 = some (cO 6 [.ref 1, .ref 23, .ref 45, .ref 145, .ref 162]) := hF.1
  refine r_aload4 (pc := 0) dL_runScript_0 ?_
  refine n_iconst_0 (pc := 2) dL_runScript_2 ?_
  refine r_aload0 (pc := 3) dL_runScript_3 ?_
  refine r_iload1 (pc := 4) dL_runScript_4 ?_
  refine r_lload2 (pc := 5) dL_runScript_5 ?_
  refine G_callX (pc := 6) (as := [.int x, .long s]) (rest := [.int (nI 0), .ref 172]) rfl rfl lk_L_80 dL_runScript_6 h0 (s7_runScript hF hO) (by decide) rfl (by decide) (by decide) (fun r1 M1 h1 => ?_) (fun E M1 h1 => ?_)
  · obtain ⟨k1, k2, k3, k4⟩ := h1
    subst k4
    change G mL_runScript 9 (.inr (.inr [(0, 11, 14, 13)])) 1 6 (tLw M (A_runScript x s w)) none 1 6 9 [some (.ref 0), some (.int x), some (.long s), none, some (.ref 172), none] [.int (A_runScript x s w).2.1, .int (nI 0), .ref 172] M1
    refine r_i2l (pc := 9) dL_runScript_9 ?_
    refine r_last (pc := 10) dL_runScript_10 ((k2 172 (by decide)).trans hu) in01 ?_
    refine r_goto (pc := 11) 18 (by decide) dL_runScript_11 ?_
    refine n_iconst_0 (pc := 18) dL_runScript_18 ?_
    exact p_ireturnW (pc := 19) rfl rfl rfl dL_runScript_19 (by decide) (by decide) rfl (tLw_o k3 k1 k2)
  · obtain ⟨k1, k2, k, k3, k4⟩ := h1
    match k, k3, k4 with
    | 0, k3, k4 =>
      cases k4
      refine ⟨14, 5, 16, ⟨[], (0, 11, 14, 13), [], rfl, rfl, by decide, by decide, (tG 480 (by decide +kernel) (by decide +kernel)), by decide +kernel, (fun z hz => by cases hz)⟩, Or.inr ⟨dL_runScript_14, rfl⟩, by decide, fun j hj => by have h9 : j = 4 := (by omega); subst h9; rfl, ?_⟩
      refine n_iconst_1 (pc := 16) dL_runScript_16 ?_
      exact p_ireturnW (pc := 17) rfl rfl rfl dL_runScript_17 (by decide) (by decide) rfl (tLw_x k3 k1 k2 hu (by decide))
    | k + 1, k3, k4 => cases k4
theorem sL_simulate (hF : FACE M w) (hO : WOK w) (hu : M 172 = some (cJ 1 f)) {s : Int64} {x : Int32} : SpecW mL_simulate [(0, 11, 14, 13)] 9 1 6 [.ref 0, .long s, .int x, .ref 172] M (tLw M (A_simulate s x w)) := by
  refine SpecW_of [some (.ref 0), some (.long s), none, some (.int x), some (.ref 172), none] (by decide) (Nat.le_of_ble_eq_true rfl) rfl ?_
  have h0 : M 0 = some (cO 6 [.ref 1, .ref 23, .ref 45, .ref 145, .ref 162]) := hF.1
  refine r_aload4 (pc := 0) dL_simulate_0 ?_
  refine n_iconst_0 (pc := 2) dL_simulate_2 ?_
  refine r_aload0 (pc := 3) dL_simulate_3 ?_
  refine r_lload1 (pc := 4) dL_simulate_4 ?_
  refine r_iload3 (pc := 5) dL_simulate_5 ?_
  refine G_callX (pc := 6) (as := [.long s, .int x]) (rest := [.int (nI 0), .ref 172]) rfl rfl lk_L_84 dL_simulate_6 h0 (s7_simulate hF hO) (by decide) rfl (by decide) (by decide) (fun r1 M1 h1 => ?_) (fun E M1 h1 => ?_)
  · obtain ⟨k1, k2, k3, k4⟩ := h1
    subst k4
    change G mL_simulate 9 (.inr (.inr [(0, 11, 14, 13)])) 1 6 (tLw M (A_simulate s x w)) none 1 6 9 [some (.ref 0), some (.long s), none, some (.int x), some (.ref 172), none] [.int (A_simulate s x w).2.1, .int (nI 0), .ref 172] M1
    refine r_i2l (pc := 9) dL_simulate_9 ?_
    refine r_last (pc := 10) dL_simulate_10 ((k2 172 (by decide)).trans hu) in01 ?_
    refine r_goto (pc := 11) 18 (by decide) dL_simulate_11 ?_
    refine n_iconst_0 (pc := 18) dL_simulate_18 ?_
    exact p_ireturnW (pc := 19) rfl rfl rfl dL_simulate_19 (by decide) (by decide) rfl (tLw_o k3 k1 k2)
  · obtain ⟨k1, k2, k, k3, k4⟩ := h1
    match k, k3, k4 with
    | 0, k3, k4 =>
      cases k4
      refine ⟨14, 5, 16, ⟨[], (0, 11, 14, 13), [], rfl, rfl, by decide, by decide, (tG 480 (by decide +kernel) (by decide +kernel)), by decide +kernel, (fun z hz => by cases hz)⟩, Or.inr ⟨dL_simulate_14, rfl⟩, by decide, fun j hj => by have h9 : j = 4 := (by omega); subst h9; rfl, ?_⟩
      refine n_iconst_1 (pc := 16) dL_simulate_16 ?_
      exact p_ireturnW (pc := 17) rfl rfl rfl dL_simulate_17 (by decide) (by decide) rfl (tLw_x k3 k1 k2 hu (by decide))
    | k + 1, k3, k4 => cases k4
theorem sL_save (hF : FACE M w) (hO : WOK w) (hu : M 172 = some (cJ 1 f)) {x : Int32} : SpecW mL_save [(0, 9, 12, 28)] 9 1 6 [.ref 0, .int x, .ref 172] M (tLw M (A_save x w)) := by
  refine SpecW_of [some (.ref 0), some (.int x), some (.ref 172), none] (by decide) (Nat.le_of_ble_eq_true rfl) rfl ?_
  have h0 : M 0 = some (cO 6 [.ref 1, .ref 23, .ref 45, .ref 145, .ref 162]) := hF.1
  refine r_aload2 (pc := 0) dL_save_0 ?_
  refine n_iconst_0 (pc := 1) dL_save_1 ?_
  refine r_aload0 (pc := 2) dL_save_2 ?_
  refine r_iload1 (pc := 3) dL_save_3 ?_
  refine G_callX (pc := 4) (as := [.int x]) (rest := [.int (nI 0), .ref 172]) rfl rfl lk_L_88 dL_save_4 h0 (s7_save hF hO) (by decide) rfl (by decide) (by decide) (fun r1 M1 h1 => ?_) (fun E M1 h1 => ?_)
  · obtain ⟨k1, k2, k3, k4⟩ := h1
    subst k4
    change G mL_save 9 (.inr (.inr [(0, 9, 12, 28)])) 1 6 (tLw M (A_save x w)) none 1 6 7 [some (.ref 0), some (.int x), some (.ref 172), none] [.int (A_save x w).2.1, .int (nI 0), .ref 172] M1
    refine r_i2l (pc := 7) dL_save_7 ?_
    refine r_last (pc := 8) dL_save_8 ((k2 172 (by decide)).trans hu) in01 ?_
    refine r_goto (pc := 9) 15 (by decide) dL_save_9 ?_
    refine n_iconst_0 (pc := 15) dL_save_15 ?_
    exact p_ireturnW (pc := 16) rfl rfl rfl dL_save_16 (by decide) (by decide) rfl (tLw_o k3 k1 k2)
  · obtain ⟨k1, k2, k, k3, k4⟩ := h1
    match k, k3, k4 with
    | 0, k3, k4 =>
      cases k4
      refine ⟨12, 3, 13, ⟨[], (0, 9, 12, 28), [], rfl, rfl, by decide, by decide, (tG 749 (by decide +kernel) (by decide +kernel)), by decide +kernel, (fun z hz => by cases hz)⟩, Or.inl ⟨3, dL_save_12, rfl, rfl⟩, by decide, fun j hj => by have h9 : j = 2 := (by omega); subst h9; rfl, ?_⟩
      refine n_iconst_1 (pc := 13) dL_save_13 ?_
      exact p_ireturnW (pc := 14) rfl rfl rfl dL_save_14 (by decide) (by decide) rfl (tLw_x k3 k1 k2 hu (by decide))
    | k + 1, k3, k4 => cases k4
theorem sL_restore (hF : FACE M w) (hO : WOK w) (hu : M 172 = some (cJ 1 f)) {x : Int32} : SpecW mL_restore [(0, 9, 12, 28), (0, 9, 15, 15)] 9 1 6 [.ref 0, .int x, .ref 172] M (tLw M (A_restore x w)) := by
  refine SpecW_of [some (.ref 0), some (.int x), some (.ref 172), none] (by decide) (Nat.le_of_ble_eq_true rfl) rfl ?_
  have h0 : M 0 = some (cO 6 [.ref 1, .ref 23, .ref 45, .ref 145, .ref 162]) := hF.1
  refine r_aload2 (pc := 0) dL_restore_0 ?_
  refine n_iconst_0 (pc := 1) dL_restore_1 ?_
  refine r_aload0 (pc := 2) dL_restore_2 ?_
  refine r_iload1 (pc := 3) dL_restore_3 ?_
  refine G_callX (pc := 4) (as := [.int x]) (rest := [.int (nI 0), .ref 172]) rfl rfl lk_L_91 dL_restore_4 h0 (s7_restore hF hO) (by decide) rfl (by decide) (by decide) (fun r1 M1 h1 => ?_) (fun E M1 h1 => ?_)
  · obtain ⟨k1, k2, k3, k4⟩ := h1
    subst k4
    change G mL_restore 9 (.inr (.inr [(0, 9, 12, 28), (0, 9, 15, 15)])) 1 6 (tLw M (A_restore x w)) none 1 6 7 [some (.ref 0), some (.int x), some (.ref 172), none] [.int (A_restore x w).2.1, .int (nI 0), .ref 172] M1
    refine r_i2l (pc := 7) dL_restore_7 ?_
    refine r_last (pc := 8) dL_restore_8 ((k2 172 (by decide)).trans hu) in01 ?_
    refine r_goto (pc := 9) 18 (by decide) dL_restore_9 ?_
    refine n_iconst_0 (pc := 18) dL_restore_18 ?_
    exact p_ireturnW (pc := 19) rfl rfl rfl dL_restore_19 (by decide) (by decide) rfl (tLw_o k3 k1 k2)
  · obtain ⟨k1, k2, k, k3, k4⟩ := h1
    match k, k3, k4 with
    | 0, k3, k4 =>
      cases k4
      refine ⟨12, 3, 13, ⟨[], (0, 9, 12, 28), [(0, 9, 15, 15)], rfl, rfl, by decide, by decide, (tG 749 (by decide +kernel) (by decide +kernel)), by decide +kernel, (fun z hz => by cases hz)⟩, Or.inl ⟨3, dL_restore_12, rfl, rfl⟩, by decide, fun j hj => by have h9 : j = 2 := (by omega); subst h9; rfl, ?_⟩
      refine n_iconst_1 (pc := 13) dL_restore_13 ?_
      exact p_ireturnW (pc := 14) rfl rfl rfl dL_restore_14 (by decide) (by decide) rfl (tLw_x k3 k1 k2 hu (by decide))
    | 1, k3, k4 =>
      cases k4
      refine ⟨15, 3, 16, ⟨[(0, 9, 12, 28)], (0, 9, 15, 15), [], rfl, rfl, by decide, by decide, (tG 481 (by decide +kernel) (by decide +kernel)), by decide +kernel, (fun z hz => by
          simp only [List.mem_cons, List.not_mem_nil, or_false] at hz
          subst hz
          exact ⟨by decide, xIOB, (tG 749 (by decide +kernel) (by decide +kernel)), by decide +kernel⟩)⟩, Or.inl ⟨3, dL_restore_15, rfl, rfl⟩, by decide, fun j hj => by have h9 : j = 2 := (by omega); subst h9; rfl, ?_⟩
      refine n_iconst_2 (pc := 16) dL_restore_16 ?_
      exact p_ireturnW (pc := 17) rfl rfl rfl dL_restore_17 (by decide) (by decide) rfl (tLw_x k3 k1 k2 hu (by decide))
    | k + 2, k3, k4 => cases k4
end WRAP
theorem lkw_98 : LkSW RL 98 mL_append [(0, 9, 12, 13), (0, 9, 15, 15)] 3 := ⟨(tG 477 (by decide +kernel) (by decide +kernel)), (tG 478 (by decide +kernel) (by decide +kernel)), (tG 36 (by decide +kernel) (by decide +kernel)), (tG 479 (by decide +kernel) (by decide +kernel)), by decide +kernel, by decide +kernel, by decide⟩
theorem lkw_115 : LkSW RL 115 mL_load [(0, 8, 11, 15)] 2 := ⟨(tG 577 (by decide +kernel) (by decide +kernel)), (tG 578 (by decide +kernel) (by decide +kernel)), (tG 36 (by decide +kernel) (by decide +kernel)), (tG 579 (by decide +kernel) (by decide +kernel)), by decide +kernel, by decide +kernel, by decide⟩
theorem lkw_119 : LkSW RL 119 mL_about [(0, 9, 12, 13)] 3 := ⟨(tG 726 (by decide +kernel) (by decide +kernel)), (tG 727 (by decide +kernel) (by decide +kernel)), (tG 36 (by decide +kernel) (by decide +kernel)), (tG 728 (by decide +kernel) (by decide +kernel)), by decide +kernel, by decide +kernel, by decide⟩
theorem lkw_122 : LkSW RL 122 mL_square [(0, 12, 15, 28), (0, 12, 19, 13)] 5 := ⟨(tG 746 (by decide +kernel) (by decide +kernel)), (tG 747 (by decide +kernel) (by decide +kernel)), (tG 36 (by decide +kernel) (by decide +kernel)), (tG 748 (by decide +kernel) (by decide +kernel)), by decide +kernel, by decide +kernel, by decide⟩
theorem lkw_126 : LkSW RL 126 mL_place [(0, 10, 13, 28), (0, 10, 17, 13)] 4 := ⟨(tG 780 (by decide +kernel) (by decide +kernel)), (tG 781 (by decide +kernel) (by decide +kernel)), (tG 36 (by decide +kernel) (by decide +kernel)), (tG 782 (by decide +kernel) (by decide +kernel)), by decide +kernel, by decide +kernel, by decide⟩
theorem lkw_130 : LkSW RL 130 mL_tile [(0, 10, 13, 28), (0, 10, 17, 13)] 4 := ⟨(tG 792 (by decide +kernel) (by decide +kernel)), (tG 793 (by decide +kernel) (by decide +kernel)), (tG 36 (by decide +kernel) (by decide +kernel)), (tG 794 (by decide +kernel) (by decide +kernel)), by decide +kernel, by decide +kernel, by decide⟩
theorem lkw_133 : LkSW RL 133 mL_begin [(0, 10, 13, 13)] 4 := ⟨(tG 809 (by decide +kernel) (by decide +kernel)), (tG 810 (by decide +kernel) (by decide +kernel)), (tG 36 (by decide +kernel) (by decide +kernel)), (tG 811 (by decide +kernel) (by decide +kernel)), by decide +kernel, by decide +kernel, by decide⟩
theorem lkw_136 : LkSW RL 136 mL_grey [(0, 12, 15, 28), (0, 12, 19, 13)] 5 := ⟨(tG 817 (by decide +kernel) (by decide +kernel)), (tG 818 (by decide +kernel) (by decide +kernel)), (tG 36 (by decide +kernel) (by decide +kernel)), (tG 819 (by decide +kernel) (by decide +kernel)), by decide +kernel, by decide +kernel, by decide⟩
theorem lkw_139 : LkSW RL 139 mL_fade [(0, 10, 13, 13)] 4 := ⟨(tG 827 (by decide +kernel) (by decide +kernel)), (tG 828 (by decide +kernel) (by decide +kernel)), (tG 36 (by decide +kernel) (by decide +kernel)), (tG 829 (by decide +kernel) (by decide +kernel)), by decide +kernel, by decide +kernel, by decide⟩
theorem lkw_142 : LkSW RL 142 mL_turn [(0, 9, 12, 28), (0, 9, 15, 15)] 3 := ⟨(tG 835 (by decide +kernel) (by decide +kernel)), (tG 836 (by decide +kernel) (by decide +kernel)), (tG 36 (by decide +kernel) (by decide +kernel)), (tG 837 (by decide +kernel) (by decide +kernel)), by decide +kernel, by decide +kernel, by decide⟩
theorem lkw_145 : LkSW RL 145 mL_swap [(0, 10, 13, 28), (0, 10, 17, 13), (0, 10, 21, 15)] 4 := ⟨(tG 845 (by decide +kernel) (by decide +kernel)), (tG 846 (by decide +kernel) (by decide +kernel)), (tG 36 (by decide +kernel) (by decide +kernel)), (tG 847 (by decide +kernel) (by decide +kernel)), by decide +kernel, by decide +kernel, by decide⟩
theorem lkw_148 : LkSW RL 148 mL_flip [(0, 10, 13, 28), (0, 10, 17, 15)] 4 := ⟨(tG 855 (by decide +kernel) (by decide +kernel)), (tG 856 (by decide +kernel) (by decide +kernel)), (tG 36 (by decide +kernel) (by decide +kernel)), (tG 857 (by decide +kernel) (by decide +kernel)), by decide +kernel, by decide +kernel, by decide⟩
theorem lkw_151 : LkSW RL 151 mL_hold [(0, 10, 13, 28)] 4 := ⟨(tG 866 (by decide +kernel) (by decide +kernel)), (tG 867 (by decide +kernel) (by decide +kernel)), (tG 36 (by decide +kernel) (by decide +kernel)), (tG 868 (by decide +kernel) (by decide +kernel)), by decide +kernel, by decide +kernel, by decide⟩
theorem lkw_159 : LkSW RL 159 mL_improve [(0, 9, 12, 13)] 3 := ⟨(tG 873 (by decide +kernel) (by decide +kernel)), (tG 874 (by decide +kernel) (by decide +kernel)), (tG 36 (by decide +kernel) (by decide +kernel)), (tG 875 (by decide +kernel) (by decide +kernel)), by decide +kernel, by decide +kernel, by decide⟩
theorem lkw_162 : LkSW RL 162 mL_undo [(0, 8, 11, 15)] 2 := ⟨(tG 885 (by decide +kernel) (by decide +kernel)), (tG 886 (by decide +kernel) (by decide +kernel)), (tG 36 (by decide +kernel) (by decide +kernel)), (tG 887 (by decide +kernel) (by decide +kernel)), by decide +kernel, by decide +kernel, by decide⟩
theorem lkw_165 : LkSW RL 165 mL_gain [(0, 9, 12, 13)] 3 := ⟨(tG 906 (by decide +kernel) (by decide +kernel)), (tG 907 (by decide +kernel) (by decide +kernel)), (tG 36 (by decide +kernel) (by decide +kernel)), (tG 908 (by decide +kernel) (by decide +kernel)), by decide +kernel, by decide +kernel, by decide⟩
theorem lkw_168 : LkSW RL 168 mL_best [(0, 9, 12, 13)] 3 := ⟨(tG 932 (by decide +kernel) (by decide +kernel)), (tG 933 (by decide +kernel) (by decide +kernel)), (tG 36 (by decide +kernel) (by decide +kernel)), (tG 934 (by decide +kernel) (by decide +kernel)), by decide +kernel, by decide +kernel, by decide⟩
theorem lkw_171 : LkSW RL 171 mL_ifImproved [(0, 10, 13, 13)] 4 := ⟨(tG 941 (by decide +kernel) (by decide +kernel)), (tG 942 (by decide +kernel) (by decide +kernel)), (tG 36 (by decide +kernel) (by decide +kernel)), (tG 943 (by decide +kernel) (by decide +kernel)), by decide +kernel, by decide +kernel, by decide⟩
theorem lkw_178 : LkSW RL 178 mL_worst [(0, 9, 12, 28)] 3 := ⟨(tG 949 (by decide +kernel) (by decide +kernel)), (tG 950 (by decide +kernel) (by decide +kernel)), (tG 36 (by decide +kernel) (by decide +kernel)), (tG 951 (by decide +kernel) (by decide +kernel)), by decide +kernel, by decide +kernel, by decide⟩
theorem lkw_181 : LkSW RL 181 mL_fits [(0, 9, 12, 28)] 3 := ⟨(tG 965 (by decide +kernel) (by decide +kernel)), (tG 966 (by decide +kernel) (by decide +kernel)), (tG 36 (by decide +kernel) (by decide +kernel)), (tG 967 (by decide +kernel) (by decide +kernel)), by decide +kernel, by decide +kernel, by decide⟩
theorem lkw_186 : LkSW RL 186 mL_runScript [(0, 11, 14, 13)] 4 := ⟨(tG 976 (by decide +kernel) (by decide +kernel)), (tG 977 (by decide +kernel) (by decide +kernel)), (tG 36 (by decide +kernel) (by decide +kernel)), (tG 978 (by decide +kernel) (by decide +kernel)), by decide +kernel, by decide +kernel, by decide⟩
theorem lkw_190 : LkSW RL 190 mL_simulate [(0, 11, 14, 13)] 4 := ⟨(tG 1000 (by decide +kernel) (by decide +kernel)), (tG 1001 (by decide +kernel) (by decide +kernel)), (tG 36 (by decide +kernel) (by decide +kernel)), (tG 1002 (by decide +kernel) (by decide +kernel)), by decide +kernel, by decide +kernel, by decide⟩
theorem lkw_194 : LkSW RL 194 mL_save [(0, 9, 12, 28)] 3 := ⟨(tG 1013 (by decide +kernel) (by decide +kernel)), (tG 1014 (by decide +kernel) (by decide +kernel)), (tG 36 (by decide +kernel) (by decide +kernel)), (tG 1015 (by decide +kernel) (by decide +kernel)), by decide +kernel, by decide +kernel, by decide⟩
theorem lkw_197 : LkSW RL 197 mL_restore [(0, 9, 12, 28), (0, 9, 15, 15)] 3 := ⟨(tG 1030 (by decide +kernel) (by decide +kernel)), (tG 1031 (by decide +kernel) (by decide +kernel)), (tG 36 (by decide +kernel) (by decide +kernel)), (tG 1032 (by decide +kernel) (by decide +kernel)), by decide +kernel, by decide +kernel, by decide⟩
