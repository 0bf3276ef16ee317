def inR (x : Int32) (n : Nat) : Bool := decide (0 ≤ x.toInt ∧ x.toInt < n)
theorem inR_y {k n : Nat} (h : k < n) (hn : n < 2147483648) : inR (nI k) n = true := by
  unfold inR; rw [nI_toInt (by omega)]; simp; omega
theorem inR_neg {x : Int32} {n : Nat} (h : x < 0) : inR x n = false := by
  have := Int32.lt_iff_toInt_lt.mp h
  unfold inR; simp at this ⊢; omega
theorem inR_ge {x : Int32} {n : Nat} (h : nI n ≤ x) (hn : n < 2147483648) : inR x n = false := by
  have := Int32.le_iff_toInt_le.mp h
  rw [nI_toInt (by omega)] at this
  unfold inR; simp; omega
theorem inR_ex {x : Int32} {n : Nat} (h : inR x n = true) (hn : n < 2147483648) : ∃ k, k < n ∧ x = nI k := by
  rcases ix_or x n hn with h1 | h1 | h1
  · exact h1
  · rw [inR_neg h1] at h; cases h
  · rw [inR_ge h1 hn] at h; cases h
theorem ne_ge {x : Int32} {n : Nat} (h : nI n ≤ x) (hn : n < 2147483648) : ¬ x < 0 := by
  have := Int32.le_iff_toInt_le.mp h
  rw [nI_toInt (by omega)] at this
  intro h2
  have := Int32.lt_iff_toInt_lt.mp h2
  simp at this; omega
theorem b_if_eq {q : MI} {d : Nat} {x : XM} {mc ms : Nat} {oc : TG} {al : Option Nat} {cs ss pc : Nat} {lv : List (Option Value)} {st : List Value} {M : Mem} {b : Bool} {z : Int} (tg : Nat) (ht : (pc : Int) + z = (tg : Int)) (h0 : dec q pc = .ok (.ifCond .eq z, 3)) (kt : b = false → G q d x mc ms oc al cs ss tg lv st M) (kf : b = true → G q d x mc ms oc al cs ss (pc + 3) lv st M) : G q d x mc ms oc al cs ss pc lv (.int (bI b) :: st) M :=
  r_if_eq tg ht h0 (fun h => kt (by cases b; rfl; exact absurd h (by decide))) (fun h => kf (by cases b; exact absurd rfl h; rfl))
theorem b_if_ne {q : MI} {d : Nat} {x : XM} {mc ms : Nat} {oc : TG} {al : Option Nat} {cs ss pc : Nat} {lv : List (Option Value)} {st : List Value} {M : Mem} {b : Bool} {z : Int} (tg : Nat) (ht : (pc : Int) + z = (tg : Int)) (h0 : dec q pc = .ok (.ifCond .ne z, 3)) (kt : b = true → G q d x mc ms oc al cs ss tg lv st M) (kf : b = false → G q d x mc ms oc al cs ss (pc + 3) lv st M) : G q d x mc ms oc al cs ss pc lv (.int (bI b) :: st) M :=
  r_if_ne tg ht h0 (fun h => kt (by cases b; exact absurd rfl h; rfl)) (fun h => kf (by cases b; rfl; exact absurd h (by decide)))
section BREAD
variable {M : Mem} {b : Nat} {S : BS} {z : ZS}
set_option maxRecDepth 20000 in
theorem s_hasSquare (hI : InvB S z) (hZ : ZOK z) {x y : Int32} : Spec mX0_hasSquare 1 0 0 [.ref b, .int x, .int y] (bset M b S) (some (.int (bI (inR x (zc z) && inR y (zr z))))) (bset M b S) := by
  have hd := hZ.dims
  refine Spec_of [some (.ref b), some (.int x), some (.int y)] (by decide) (Nat.le_of_ble_eq_true rfl) rfl ?_
  rcases ix_or x (zc z) (by omega) with ⟨i, hi, rfl⟩ | h | h
  · rcases ix_or y (zr z) (by omega) with ⟨j, hj, rfl⟩ | h | h
    · refine r_iload1 (pc := 0) dX0_hasSquare_0 ?_
      refine n_if_lt (pc := 1) 28 (by decide) dX0_hasSquare_1 (by omega) ?_
      refine r_iload1 (pc := 4) dX0_hasSquare_4 ?_
      refine r_aload0 (pc := 5) dX0_hasSquare_5 ?_
      refine r_getf (pc := 6) fl_X0_96 dX0_hasSquare_6 (bget0 rfl) rfl ?_
      rw [hI.c0]
      refine n_icmp_ge (pc := 9) 28 (by decide) dX0_hasSquare_9 (by omega) (by omega) (fun hc9 => absurd hc9 (by omega)) (fun hc9 => ?_)
      refine r_iload2 (pc := 12) dX0_hasSquare_12 ?_
      refine n_if_lt (pc := 13) 28 (by decide) dX0_hasSquare_13 (by omega) ?_
      refine r_iload2 (pc := 16) dX0_hasSquare_16 ?_
      refine r_aload0 (pc := 17) dX0_hasSquare_17 ?_
      refine r_getf (pc := 18) fl_X0_99 dX0_hasSquare_18 (bget0 rfl) rfl ?_
      rw [hI.c1]
      refine n_icmp_ge (pc := 21) 28 (by decide) dX0_hasSquare_21 (by omega) (by omega) (fun hc21 => absurd hc21 (by omega)) (fun hc21 => ?_)
      refine n_iconst_1 (pc := 24) dX0_hasSquare_24 ?_
      refine r_goto (pc := 25) 29 (by decide) dX0_hasSquare_25 ?_
      exact r_ireturn (pc := 29) false rfl rfl (by decide) dX0_hasSquare_29 (Nat.zero_le _) (Nat.zero_le _) (Or.inl rfl) rfl (by rw [inR_y hi (by omega), inR_y hj (by omega)]; rfl) rfl
    · refine r_iload1 (pc := 0) dX0_hasSquare_0 ?_
      refine n_if_lt (pc := 1) 28 (by decide) dX0_hasSquare_1 (by omega) ?_
      refine r_iload1 (pc := 4) dX0_hasSquare_4 ?_
      refine r_aload0 (pc := 5) dX0_hasSquare_5 ?_
      refine r_getf (pc := 6) fl_X0_96 dX0_hasSquare_6 (bget0 rfl) rfl ?_
      rw [hI.c0]
      refine n_icmp_ge (pc := 9) 28 (by decide) dX0_hasSquare_9 (by omega) (by omega) (fun hc9 => absurd hc9 (by omega)) (fun hc9 => ?_)
      refine r_iload2 (pc := 12) dX0_hasSquare_12 ?_
      refine r_if_lt (pc := 13) 28 (by decide) dX0_hasSquare_13 (fun _ => ?_) (fun h9 => absurd h h9)
      refine n_iconst_0 (pc := 28) dX0_hasSquare_28 ?_
      exact r_ireturn (pc := 29) false rfl rfl (by decide) dX0_hasSquare_29 (Nat.zero_le _) (Nat.zero_le _) (Or.inl rfl) rfl (by rw [inR_neg h, Bool.and_false]; rfl) rfl
    · refine r_iload1 (pc := 0) dX0_hasSquare_0 ?_
      refine n_if_lt (pc := 1) 28 (by decide) dX0_hasSquare_1 (by omega) ?_
      refine r_iload1 (pc := 4) dX0_hasSquare_4 ?_
      refine r_aload0 (pc := 5) dX0_hasSquare_5 ?_
      refine r_getf (pc := 6) fl_X0_96 dX0_hasSquare_6 (bget0 rfl) rfl ?_
      rw [hI.c0]
      refine n_icmp_ge (pc := 9) 28 (by decide) dX0_hasSquare_9 (by omega) (by omega) (fun hc9 => absurd hc9 (by omega)) (fun hc9 => ?_)
      refine r_iload2 (pc := 12) dX0_hasSquare_12 ?_
      refine r_if_lt (pc := 13) 28 (by decide) dX0_hasSquare_13 (fun h9 => absurd h9 (ne_ge h (by omega))) (fun _ => ?_)
      refine r_iload2 (pc := 16) dX0_hasSquare_16 ?_
      refine r_aload0 (pc := 17) dX0_hasSquare_17 ?_
      refine r_getf (pc := 18) fl_X0_99 dX0_hasSquare_18 (bget0 rfl) rfl ?_
      rw [hI.c1]
      refine r_icmp_ge (pc := 21) 28 (by decide) dX0_hasSquare_21 (fun _ => ?_) (fun h9 => absurd h h9)
      refine n_iconst_0 (pc := 28) dX0_hasSquare_28 ?_
      exact r_ireturn (pc := 29) false rfl rfl (by decide) dX0_hasSquare_29 (Nat.zero_le _) (Nat.zero_le _) (Or.inl rfl) rfl (by rw [inR_ge h (by omega), Bool.and_false]; rfl) rfl
  · refine r_iload1 (pc := 0) dX0_hasSquare_0 ?_
    refine r_if_lt (pc := 1) 28 (by decide) dX0_hasSquare_1 (fun _ => ?_) (fun h9 => absurd h h9)
    refine n_iconst_0 (pc := 28) dX0_hasSquare_28 ?_
    exact r_ireturn (pc := 29) false rfl rfl (by decide) dX0_hasSquare_29 (Nat.zero_le _) (Nat.zero_le _) (Or.inl rfl) rfl (by rw [inR_neg h]; rfl) rfl
  · refine r_iload1 (pc := 0) dX0_hasSquare_0 ?_
    refine r_if_lt (pc := 1) 28 (by decide) dX0_hasSquare_1 (fun h9 => absurd h9 (ne_ge h (by omega))) (fun _ => ?_)
    refine r_iload1 (pc := 4) dX0_hasSquare_4 ?_
    refine r_aload0 (pc := 5) dX0_hasSquare_5 ?_
    refine r_getf (pc := 6) fl_X0_96 dX0_hasSquare_6 (bget0 rfl) rfl ?_
    rw [hI.c0]
    refine r_icmp_ge (pc := 9) 28 (by decide) dX0_hasSquare_9 (fun _ => ?_) (fun h9 => absurd h h9)
    refine n_iconst_0 (pc := 28) dX0_hasSquare_28 ?_
    exact r_ireturn (pc := 29) false rfl rfl (by decide) dX0_hasSquare_29 (Nat.zero_le _) (Nat.zero_le _) (Or.inl rfl) rfl (by rw [inR_ge h (by omega)]; rfl) rfl
set_option maxRecDepth 20000 in
theorem s_squareAt (hI : InvB S z) {x y : Nat} : Spec mX0_squareAt 1 0 0 [.ref b, .int (nI x), .int (nI y)] (bset M b S) (some (.int (nI (y * zc z + x)))) (bset M b S) := by
  refine Spec_of [some (.ref b), some (.int (nI x)), some (.int (nI y))] (by decide) (Nat.le_of_ble_eq_true rfl) rfl ?_
  refine r_iload2 (pc := 0) dX0_squareAt_0 ?_
  refine r_aload0 (pc := 1) dX0_squareAt_1 ?_
  refine r_getf (pc := 2) fl_X0_96 dX0_squareAt_2 (bget0 rfl) rfl ?_
  rw [hI.c0]
  first | refine n_imul (pc := 5) dX0_squareAt_5 ?_ | refine z_imul (pc := 5) dX0_squareAt_5 ?_ | refine r_imul (pc := 5) dX0_squareAt_5 ?_
  refine r_iload1 (pc := 6) dX0_squareAt_6 ?_
  first | refine n_iadd (pc := 7) dX0_squareAt_7 ?_ | refine z_iadd (pc := 7) dX0_squareAt_7 ?_ | refine r_iadd (pc := 7) dX0_squareAt_7 ?_
  exact r_ireturn (pc := 8) false rfl rfl rfl dX0_squareAt_8 (Nat.zero_le _) (Nat.zero_le _) (Or.inl rfl) rfl rfl rfl
set_option maxRecDepth 20000 in
theorem s_hasPlace (hI : InvB S z) (hZ : ZOK z) {x : Int32} : Spec mX0_hasPlace 1 0 0 [.ref b, .int x] (bset M b S) (some (.int (bI (inR x (zt z))))) (bset M b S) := by
  have hd := hZ.dims
  refine Spec_of [some (.ref b), some (.int x)] (by decide) (Nat.le_of_ble_eq_true rfl) rfl ?_
  rcases ix_or x (zt z) (by omega) with ⟨i, hi, rfl⟩ | h | h
  · refine r_iload1 (pc := 0) dX0_hasPlace_0 ?_
    refine n_if_lt (pc := 1) 16 (by decide) dX0_hasPlace_1 (by omega) ?_
    refine r_iload1 (pc := 4) dX0_hasPlace_4 ?_
    refine r_aload0 (pc := 5) dX0_hasPlace_5 ?_
    refine r_getf (pc := 6) fl_X0_75 dX0_hasPlace_6 (bget0 rfl) rfl ?_
    rw [hI.c3]
    refine n_icmp_ge (pc := 9) 16 (by decide) dX0_hasPlace_9 (by omega) (by omega) (fun hc9 => absurd hc9 (by omega)) (fun hc9 => ?_)
    refine n_iconst_1 (pc := 12) dX0_hasPlace_12 ?_
    refine r_goto (pc := 13) 17 (by decide) dX0_hasPlace_13 ?_
    exact r_ireturn (pc := 17) false rfl rfl (by decide) dX0_hasPlace_17 (Nat.zero_le _) (Nat.zero_le _) (Or.inl rfl) rfl (by rw [inR_y hi (by omega)]; rfl) rfl
  · refine r_iload1 (pc := 0) dX0_hasPlace_0 ?_
    refine r_if_lt (pc := 1) 16 (by decide) dX0_hasPlace_1 (fun _ => ?_) (fun h9 => absurd h h9)
    refine n_iconst_0 (pc := 16) dX0_hasPlace_16 ?_
    exact r_ireturn (pc := 17) false rfl rfl (by decide) dX0_hasPlace_17 (Nat.zero_le _) (Nat.zero_le _) (Or.inl rfl) rfl (by rw [inR_neg h]; rfl) rfl
  · refine r_iload1 (pc := 0) dX0_hasPlace_0 ?_
    refine r_if_lt (pc := 1) 16 (by decide) dX0_hasPlace_1 (fun h9 => absurd h9 (ne_ge h (by omega))) (fun _ => ?_)
    refine r_iload1 (pc := 4) dX0_hasPlace_4 ?_
    refine r_aload0 (pc := 5) dX0_hasPlace_5 ?_
    refine r_getf (pc := 6) fl_X0_75 dX0_hasPlace_6 (bget0 rfl) rfl ?_
    rw [hI.c3]
    refine r_icmp_ge (pc := 9) 16 (by decide) dX0_hasPlace_9 (fun _ => ?_) (fun h9 => absurd h h9)
    refine n_iconst_0 (pc := 16) dX0_hasPlace_16 ?_
    exact r_ireturn (pc := 17) false rfl rfl (by decide) dX0_hasPlace_17 (Nat.zero_le _) (Nat.zero_le _) (Or.inl rfl) rfl (by rw [inR_ge h (by omega)]; rfl) rfl
set_option maxRecDepth 20000 in
theorem s_hasTile (hI : InvB S z) (hZ : ZOK z) {x : Int32} : Spec mX0_hasTile 1 0 0 [.ref b, .int x] (bset M b S) (some (.int (bI (inR x (zt z))))) (bset M b S) := by
  have hd := hZ.dims
  refine Spec_of [some (.ref b), some (.int x)] (by decide) (Nat.le_of_ble_eq_true rfl) rfl ?_
  rcases ix_or x (zt z) (by omega) with ⟨i, hi, rfl⟩ | h | h
  · refine r_iload1 (pc := 0) dX0_hasTile_0 ?_
    refine n_if_lt (pc := 1) 16 (by decide) dX0_hasTile_1 (by omega) ?_
    refine r_iload1 (pc := 4) dX0_hasTile_4 ?_
    refine r_aload0 (pc := 5) dX0_hasTile_5 ?_
    refine r_getf (pc := 6) fl_X0_75 dX0_hasTile_6 (bget0 rfl) rfl ?_
    rw [hI.c3]
    refine n_icmp_ge (pc := 9) 16 (by decide) dX0_hasTile_9 (by omega) (by omega) (fun hc9 => absurd hc9 (by omega)) (fun hc9 => ?_)
    refine n_iconst_1 (pc := 12) dX0_hasTile_12 ?_
    refine r_goto (pc := 13) 17 (by decide) dX0_hasTile_13 ?_
    exact r_ireturn (pc := 17) false rfl rfl (by decide) dX0_hasTile_17 (Nat.zero_le _) (Nat.zero_le _) (Or.inl rfl) rfl (by rw [inR_y hi (by omega)]; rfl) rfl
  · refine r_iload1 (pc := 0) dX0_hasTile_0 ?_
    refine r_if_lt (pc := 1) 16 (by decide) dX0_hasTile_1 (fun _ => ?_) (fun h9 => absurd h h9)
    refine n_iconst_0 (pc := 16) dX0_hasTile_16 ?_
    exact r_ireturn (pc := 17) false rfl rfl (by decide) dX0_hasTile_17 (Nat.zero_le _) (Nat.zero_le _) (Or.inl rfl) rfl (by rw [inR_neg h]; rfl) rfl
  · refine r_iload1 (pc := 0) dX0_hasTile_0 ?_
    refine r_if_lt (pc := 1) 16 (by decide) dX0_hasTile_1 (fun h9 => absurd h9 (ne_ge h (by omega))) (fun _ => ?_)
    refine r_iload1 (pc := 4) dX0_hasTile_4 ?_
    refine r_aload0 (pc := 5) dX0_hasTile_5 ?_
    refine r_getf (pc := 6) fl_X0_75 dX0_hasTile_6 (bget0 rfl) rfl ?_
    rw [hI.c3]
    refine r_icmp_ge (pc := 9) 16 (by decide) dX0_hasTile_9 (fun _ => ?_) (fun h9 => absurd h h9)
    refine n_iconst_0 (pc := 16) dX0_hasTile_16 ?_
    exact r_ireturn (pc := 17) false rfl rfl (by decide) dX0_hasTile_17 (Nat.zero_le _) (Nat.zero_le _) (Or.inl rfl) rfl (by rw [inR_ge h (by omega)]; rfl) rfl
set_option maxRecDepth 20000 in
theorem s_isHeld (hI : InvB S z) (hZ : ZOK z) {k : Nat} (hk : k < zt z) : Spec mX0_isHeld 2 0 0 [.ref b, .int (nI k)] (bset M b S) (some (.int (bI (decide (zH z k ≠ 0))))) (bset M b S) := by
  have hd := hZ.dims
  have hh := hZ.h hk
  refine Spec_of [some (.ref b), some (.int (nI k))] (by decide) (Nat.le_of_ble_eq_true rfl) rfl ?_
  refine r_aload0 (pc := 0) dX0_isHeld_0 ?_
  refine r_getf (pc := 1) fl_X0_12 dX0_isHeld_1 (bget0 rfl) rfl ?_
  refine r_getf (pc := 4) fl_X0_69 dX0_isHeld_4 (bget rfl) rfl ?_
  refine r_iload1 (pc := 7) dX0_isHeld_7 ?_
  refine r_callN2i (pc := 8) lk_X0_115 dX0_isHeld_8 (s_at (bget rfl) (by omega) (by decide) (hI.H hk)) (by decide) (Nat.le_of_ble_eq_true rfl) ⟨Nat.zero_le _, Nat.zero_le _⟩ ?_
  refine n_if_eq (pc := 11) 18 (by decide) dX0_isHeld_11 (by omega) (fun hc11 => ?_) (fun hc11 => ?_)
  · refine n_iconst_0 (pc := 18) dX0_isHeld_18 ?_
    exact r_ireturn (pc := 19) false rfl rfl (by decide) dX0_isHeld_19 (Nat.zero_le _) (Nat.zero_le _) (Or.inl rfl) rfl (by simp [hc11, bI]; rfl) rfl
  · refine n_iconst_1 (pc := 14) dX0_isHeld_14 ?_
    refine r_goto (pc := 15) 19 (by decide) dX0_isHeld_15 ?_
    exact r_ireturn (pc := 19) false rfl rfl (by decide) dX0_isHeld_19 (Nat.zero_le _) (Nat.zero_le _) (Or.inl rfl) rfl (by simp [hc11, bI]; rfl) rfl
set_option maxRecDepth 20000 in
theorem s_isAlongRow (hI : InvB S z) (hZ : ZOK z) {k : Nat} (hk : k < zt z) : Spec mX0_isAlongRow 2 0 0 [.ref b, .int (nI k)] (bset M b S) (some (.int (bI (al z k)))) (bset M b S) := by
  have hd := hZ.dims
  have hf := hZ.fo hk
  refine Spec_of [some (.ref b), some (.int (nI k))] (by decide) (Nat.le_of_ble_eq_true rfl) rfl ?_
  refine r_aload0 (pc := 0) dX0_isAlongRow_0 ?_
  refine r_getf (pc := 1) fl_X0_12 dX0_isAlongRow_1 (bget0 rfl) rfl ?_
  refine r_getf (pc := 4) fl_X0_112 dX0_isAlongRow_4 (bget rfl) rfl ?_
  refine r_iload1 (pc := 7) dX0_isAlongRow_7 ?_
  refine r_callN2i (pc := 8) lk_X0_115 dX0_isAlongRow_8 (s_at (bget rfl) (by omega) (by decide) (hI.O hk)) (by decide) (Nat.le_of_ble_eq_true rfl) ⟨Nat.zero_le _, Nat.zero_le _⟩ ?_
  refine r_aload0 (pc := 11) dX0_isAlongRow_11 ?_
  refine r_getf (pc := 12) fl_X0_12 dX0_isAlongRow_12 (bget0 rfl) rfl ?_
  refine r_getf (pc := 15) fl_X0_109 dX0_isAlongRow_15 (bget rfl) rfl ?_
  refine r_iload1 (pc := 18) dX0_isAlongRow_18 ?_
  refine r_callN2i (pc := 19) lk_X0_115 dX0_isAlongRow_19 (s_at (bget rfl) (by omega) (by decide) (hI.F hk)) (by decide) (Nat.le_of_ble_eq_true rfl) ⟨Nat.zero_le _, Nat.zero_le _⟩ ?_
  refine n_iconst_1 (pc := 22) dX0_isAlongRow_22 ?_
  first | refine n_iadd (pc := 23) dX0_isAlongRow_23 ?_ | refine z_iadd (pc := 23) dX0_isAlongRow_23 ?_ | refine r_iadd (pc := 23) dX0_isAlongRow_23 ?_
  refine n_icmp_ne (pc := 24) 31 (by decide) dX0_isAlongRow_24 (by omega) (by omega) (fun hc24 => ?_) (fun hc24 => ?_)
  · refine n_iconst_0 (pc := 31) dX0_isAlongRow_31 ?_
    exact r_ireturn (pc := 32) false rfl rfl (by decide) dX0_isAlongRow_32 (Nat.zero_le _) (Nat.zero_le _) (Or.inl rfl) rfl (by simp [al, hc24, bI]; rfl) rfl
  · refine n_iconst_1 (pc := 27) dX0_isAlongRow_27 ?_
    refine r_goto (pc := 28) 32 (by decide) dX0_isAlongRow_28 ?_
    exact r_ireturn (pc := 32) false rfl rfl (by decide) dX0_isAlongRow_32 (Nat.zero_le _) (Nat.zero_le _) (Or.inl rfl) rfl (by simp [al, hc24, bI]; rfl) rfl
set_option maxRecDepth 20000 in
theorem s_shade (hI : InvB S z) (hZ : ZOK z) {p : Nat} (hp : p ≤ 6) : Spec mX0_shade 1 0 0 [.ref b, .int (nI p)] (bset M b S) (some (.int (nI (sh (zn z) p)))) (bset M b S) := by
  have hd := hZ.n
  refine Spec_of [some (.ref b), some (.int (nI p))] (by decide) (Nat.le_of_ble_eq_true rfl) rfl ?_
  refine r_aload0 (pc := 0) dX0_shade_0 ?_
  refine r_getf (pc := 1) fl_X0_12 dX0_shade_1 (bget0 rfl) rfl ?_
  refine r_getf (pc := 4) fl_X0_47 dX0_shade_4 (bget rfl) rfl ?_
  rw [hI.c4]
  refine n_if_le (pc := 7) 25 (by decide) dX0_shade_7 (by omega) (fun hc7 => absurd hc7 (by omega)) (fun hc7 => ?_)
  refine n_bipush (pc := 10) 99 (by decide) dX0_shade_10 ?_
  refine r_iload1 (pc := 12) dX0_shade_12 ?_
  first | refine n_imul (pc := 13) dX0_shade_13 ?_ | refine z_imul (pc := 13) dX0_shade_13 ?_ | refine r_imul (pc := 13) dX0_shade_13 ?_
  refine r_aload0 (pc := 14) dX0_shade_14 ?_
  refine r_getf (pc := 15) fl_X0_12 dX0_shade_15 (bget0 rfl) rfl ?_
  refine r_getf (pc := 18) fl_X0_47 dX0_shade_18 (bget rfl) rfl ?_
  rw [hI.c4]
  refine n_idiv (pc := 21) dX0_shade_21 (by omega) (by omega) (by omega) ?_
  refine r_goto (pc := 22) 26 (by decide) dX0_shade_22 ?_
  exact r_ireturn (pc := 26) false rfl rfl rfl dX0_shade_26 (Nat.zero_le _) (Nat.zero_le _) (Or.inl rfl) rfl rfl rfl
set_option maxRecDepth 20000 in
theorem s_miss {x y : Nat} : Spec mX0_miss 1 0 0 [.int (nI x), .int (nI y)] M (some (.int (iI (sqd x y)))) M := by
  refine Spec_of [some (.int (nI x)), some (.int (nI y))] (by decide) (Nat.le_of_ble_eq_true rfl) rfl ?_
  refine r_iload0 (pc := 0) dX0_miss_0 ?_
  refine r_iload1 (pc := 1) dX0_miss_1 ?_
  first | refine n_isubI (pc := 2) dX0_miss_2 ?_ | refine z_isub (pc := 2) dX0_miss_2 ?_ | refine r_isub (pc := 2) dX0_miss_2 ?_
  refine r_iload0 (pc := 3) dX0_miss_3 ?_
  refine r_iload1 (pc := 4) dX0_miss_4 ?_
  first | refine n_isubI (pc := 5) dX0_miss_5 ?_ | refine z_isub (pc := 5) dX0_miss_5 ?_ | refine r_isub (pc := 5) dX0_miss_5 ?_
  first | refine n_imul (pc := 6) dX0_miss_6 ?_ | refine z_imul (pc := 6) dX0_miss_6 ?_ | refine r_imul (pc := 6) dX0_miss_6 ?_
  exact r_ireturn (pc := 7) false rfl rfl rfl dX0_miss_7 (Nat.zero_le _) (Nat.zero_le _) (Or.inl rfl) rfl rfl rfl
set_option maxRecDepth 20000 in
theorem s_errorLaid (hI : InvB S z) (hZ : ZOK z) {k u : Nat} (hk : k < zt z) (hu : u < 2147483648) : Spec mX0_errorLaid 2 0 0 [.ref b, .int (nI k), .int (nI u)] (bset M b S) (some (.int (iI (ek z k u)))) (bset M b S) := by
  have hd := hZ.dims
  have hf := hZ.fo hk
  have ht := hZ.t hk
  refine Spec_of [some (.ref b), some (.int (nI k)), some (.int (nI u)), none, none, none, none, none] (by decide) (Nat.le_of_ble_eq_true rfl) rfl ?_
  refine r_aload0 (pc := 0) dX0_errorLaid_0 ?_
  refine r_getf (pc := 1) fl_X0_12 dX0_errorLaid_1 (bget0 rfl) rfl ?_
  refine r_getf (pc := 4) fl_X0_82 dX0_errorLaid_4 (bget rfl) rfl ?_
  refine r_iload1 (pc := 7) dX0_errorLaid_7 ?_
  refine r_callN2i (pc := 8) lk_X0_115 dX0_errorLaid_8 (s_at (bget rfl) (by omega) (by decide) (hI.T hk)) (by decide) (Nat.le_of_ble_eq_true rfl) ⟨Nat.zero_le _, Nat.zero_le _⟩ ?_
  refine r_istore3 (pc := 11) dX0_errorLaid_11 rfl ?_
  refine r_aload0 (pc := 12) dX0_errorLaid_12 ?_
  refine r_getf (pc := 13) fl_X0_12 dX0_errorLaid_13 (bget0 rfl) rfl ?_
  refine r_getf (pc := 16) fl_X0_57 dX0_errorLaid_16 (bget rfl) rfl ?_
  refine r_aload0 (pc := 19) dX0_errorLaid_19 ?_
  refine r_getf (pc := 20) fl_X0_12 dX0_errorLaid_20 (bget0 rfl) rfl ?_
  refine r_getf (pc := 23) fl_X0_109 dX0_errorLaid_23 (bget rfl) rfl ?_
  refine r_iload1 (pc := 26) dX0_errorLaid_26 ?_
  refine r_callN2i (pc := 27) lk_X0_115 dX0_errorLaid_27 (s_at (bget rfl) (by omega) (by decide) (hI.F hk)) (by decide) (Nat.le_of_ble_eq_true rfl) ⟨Nat.zero_le _, Nat.zero_le _⟩ ?_
  refine r_callN2i (pc := 30) lk_X0_115 dX0_errorLaid_30 (s_at (bget rfl) (by omega) (by decide) (hI.G (by omega))) (by decide) (Nat.le_of_ble_eq_true rfl) ⟨Nat.zero_le _, Nat.zero_le _⟩ ?_
  refine r_istore4 (pc := 33) dX0_errorLaid_33 rfl ?_
  refine r_aload0 (pc := 35) dX0_errorLaid_35 ?_
  refine r_getf (pc := 36) fl_X0_12 dX0_errorLaid_36 (bget0 rfl) rfl ?_
  refine r_getf (pc := 39) fl_X0_57 dX0_errorLaid_39 (bget rfl) rfl ?_
  refine r_aload0 (pc := 42) dX0_errorLaid_42 ?_
  refine r_getf (pc := 43) fl_X0_12 dX0_errorLaid_43 (bget0 rfl) rfl ?_
  refine r_getf (pc := 46) fl_X0_112 dX0_errorLaid_46 (bget rfl) rfl ?_
  refine r_iload1 (pc := 49) dX0_errorLaid_49 ?_
  refine r_callN2i (pc := 50) lk_X0_115 dX0_errorLaid_50 (s_at (bget rfl) (by omega) (by decide) (hI.O hk)) (by decide) (Nat.le_of_ble_eq_true rfl) ⟨Nat.zero_le _, Nat.zero_le _⟩ ?_
  refine r_callN2i (pc := 53) lk_X0_115 dX0_errorLaid_53 (s_at (bget rfl) (by omega) (by decide) (hI.G (by omega))) (by decide) (Nat.le_of_ble_eq_true rfl) ⟨Nat.zero_le _, Nat.zero_le _⟩ ?_
  refine r_istore5 (pc := 56) dX0_errorLaid_56 rfl ?_
  refine r_aload0 (pc := 58) dX0_errorLaid_58 ?_
  refine r_getf (pc := 59) fl_X0_25 dX0_errorLaid_59 (bget0 rfl) rfl ?_
  refine r_iload3 (pc := 62) dX0_errorLaid_62 ?_
  refine r_callN2i (pc := 63) lk_X0_115 dX0_errorLaid_63 (s_at (bget rfl) (by omega) (by decide) (hI.A ht)) (by decide) (Nat.le_of_ble_eq_true rfl) ⟨Nat.zero_le _, Nat.zero_le _⟩ ?_
  refine r_istore6 (pc := 66) dX0_errorLaid_66 rfl ?_
  refine r_aload0 (pc := 68) dX0_errorLaid_68 ?_
  refine r_getf (pc := 69) fl_X0_28 dX0_errorLaid_69 (bget0 rfl) rfl ?_
  refine r_iload3 (pc := 72) dX0_errorLaid_72 ?_
  refine r_callN2i (pc := 73) lk_X0_115 dX0_errorLaid_73 (s_at (bget rfl) (by omega) (by decide) (hI.B ht)) (by decide) (Nat.le_of_ble_eq_true rfl) ⟨Nat.zero_le _, Nat.zero_le _⟩ ?_
  refine r_istore7 (pc := 76) dX0_errorLaid_76 rfl ?_
  refine r_iload2 (pc := 78) dX0_errorLaid_78 ?_
  refine n_if_ne (pc := 79) 96 (by decide) dX0_errorLaid_79 (by omega) (fun hc79 => ?_) (fun hc79 => ?_)
  · refine r_iload4 (pc := 96) dX0_errorLaid_96 ?_
    refine r_iload5 (pc := 98) dX0_errorLaid_98 ?_
    refine r_iload7 (pc := 100) dX0_errorLaid_100 ?_
    refine r_iload6 (pc := 102) dX0_errorLaid_102 ?_
    refine r_callS4i (pc := 104) lk_X0_127 dX0_errorLaid_104 s_both (by decide) (Nat.le_of_ble_eq_true rfl) ⟨Nat.zero_le _, Nat.zero_le _⟩ ?_
    exact r_ireturn (pc := 107) false rfl rfl rfl dX0_errorLaid_107 (Nat.zero_le _) (Nat.zero_le _) (Or.inl rfl) rfl (by unfold ek e4; rw [if_neg hc79]) rfl
  · refine r_iload4 (pc := 82) dX0_errorLaid_82 ?_
    refine r_iload5 (pc := 84) dX0_errorLaid_84 ?_
    refine r_iload6 (pc := 86) dX0_errorLaid_86 ?_
    refine r_iload7 (pc := 88) dX0_errorLaid_88 ?_
    refine r_callS4i (pc := 90) lk_X0_127 dX0_errorLaid_90 s_both (by decide) (Nat.le_of_ble_eq_true rfl) ⟨Nat.zero_le _, Nat.zero_le _⟩ ?_
    refine r_goto (pc := 93) 107 (by decide) dX0_errorLaid_93 ?_
    exact r_ireturn (pc := 107) false rfl rfl rfl dX0_errorLaid_107 (Nat.zero_le _) (Nat.zero_le _) (Or.inl rfl) rfl (by unfold ek e4; rw [if_pos hc79]) rfl
set_option maxRecDepth 20000 in
theorem s_errorAt (hI : InvB S z) (hZ : ZOK z) {k : Nat} (hk : k < zt z) : Spec mX0_errorAt 3 0 0 [.ref b, .int (nI k)] (bset M b S) (some (.int (iI (er z k)))) (bset M b S) := by
  have hd := hZ.dims
  have hu := hZ.u hk
  refine Spec_of [some (.ref b), some (.int (nI k))] (by decide) (Nat.le_of_ble_eq_true rfl) rfl ?_
  refine r_aload0 (pc := 0) dX0_errorAt_0 ?_
  refine r_iload1 (pc := 1) dX0_errorAt_1 ?_
  refine r_aload0 (pc := 2) dX0_errorAt_2 ?_
  refine r_getf (pc := 3) fl_X0_12 dX0_errorAt_3 (bget0 rfl) rfl ?_
  refine r_getf (pc := 6) fl_X0_66 dX0_errorAt_6 (bget rfl) rfl ?_
  refine r_iload1 (pc := 9) dX0_errorAt_9 ?_
  refine r_callN2i (pc := 10) lk_X0_115 dX0_errorAt_10 (s_at (bget rfl) (by omega) (by decide) (hI.U hk)) (by decide) (Nat.le_of_ble_eq_true rfl) ⟨Nat.zero_le _, Nat.zero_le _⟩ ?_
  refine r_callV2i (pc := 13) lk_X0_123 dX0_errorAt_13 (bget0 rfl) (s_errorLaid hI hZ hk (by omega)) (by decide) (Nat.le_of_ble_eq_true rfl) ⟨Nat.zero_le _, Nat.zero_le _⟩ ?_
  exact r_ireturn (pc := 16) false rfl rfl rfl dX0_errorAt_16 (Nat.zero_le _) (Nat.zero_le _) (Or.inl rfl) rfl rfl rfl
set_option maxRecDepth 20000 in
theorem s_leastWith (hI : InvB S z) (hZ : ZOK z) {f o t : Nat} (hf : f < zq z) (ho : o < zq z) (ht : t < zt z) : Spec mX0_leastWith 2 0 0 [.ref b, .int (nI f), .int (nI o), .int (nI t)] (bset M b S) (some (.int (iI (lw z f o t)))) (bset M b S) := by
  have hd := hZ.dims
  refine Spec_of [some (.ref b), some (.int (nI f)), some (.int (nI o)), some (.int (nI t))] (by decide) (Nat.le_of_ble_eq_true rfl) rfl ?_
  refine r_aload0 (pc := 0) dX0_leastWith_0 ?_
  refine r_getf (pc := 1) fl_X0_12 dX0_leastWith_1 (bget0 rfl) rfl ?_
  refine r_getf (pc := 4) fl_X0_57 dX0_leastWith_4 (bget rfl) rfl ?_
  refine r_iload1 (pc := 7) dX0_leastWith_7 ?_
  refine r_callN2i (pc := 8) lk_X0_115 dX0_leastWith_8 (s_at (bget rfl) (by omega) (by decide) (hI.G hf)) (by decide) (Nat.le_of_ble_eq_true rfl) ⟨Nat.zero_le _, Nat.zero_le _⟩ ?_
  refine r_aload0 (pc := 11) dX0_leastWith_11 ?_
  refine r_getf (pc := 12) fl_X0_12 dX0_leastWith_12 (bget0 rfl) rfl ?_
  refine r_getf (pc := 15) fl_X0_57 dX0_leastWith_15 (bget rfl) rfl ?_
  refine r_iload2 (pc := 18) dX0_leastWith_18 ?_
  refine r_callN2i (pc := 19) lk_X0_115 dX0_leastWith_19 (s_at (bget rfl) (by omega) (by decide) (hI.G ho)) (by decide) (Nat.le_of_ble_eq_true rfl) ⟨Nat.zero_le _, Nat.zero_le _⟩ ?_
  refine r_aload0 (pc := 22) dX0_leastWith_22 ?_
  refine r_getf (pc := 23) fl_X0_25 dX0_leastWith_23 (bget0 rfl) rfl ?_
  refine r_iload3 (pc := 26) dX0_leastWith_26 ?_
  refine r_callN2i (pc := 27) lk_X0_115 dX0_leastWith_27 (s_at (bget rfl) (by omega) (by decide) (hI.A ht)) (by decide) (Nat.le_of_ble_eq_true rfl) ⟨Nat.zero_le _, Nat.zero_le _⟩ ?_
  refine r_aload0 (pc := 30) dX0_leastWith_30 ?_
  refine r_getf (pc := 31) fl_X0_28 dX0_leastWith_31 (bget0 rfl) rfl ?_
  refine r_iload3 (pc := 34) dX0_leastWith_34 ?_
  refine r_callN2i (pc := 35) lk_X0_115 dX0_leastWith_35 (s_at (bget rfl) (by omega) (by decide) (hI.B ht)) (by decide) (Nat.le_of_ble_eq_true rfl) ⟨Nat.zero_le _, Nat.zero_le _⟩ ?_
  refine r_callS4i (pc := 38) lk_X0_131 dX0_leastWith_38 (s_leastOf (hZ.g hf) (hZ.g ho) (hZ.hab ht).1 (hZ.hab ht).2) (by decide) (Nat.le_of_ble_eq_true rfl) ⟨Nat.zero_le _, Nat.zero_le _⟩ ?_
  exact r_ireturn (pc := 41) false rfl rfl rfl dX0_leastWith_41 (Nat.zero_le _) (Nat.zero_le _) (Or.inl rfl) rfl rfl rfl
set_option maxRecDepth 20000 in
theorem s_leastAt (hI : InvB S z) (hZ : ZOK z) {k t : Nat} (hk : k < zt z) (ht : t < zt z) : Spec mX0_leastAt 3 0 0 [.ref b, .int (nI k), .int (nI t)] (bset M b S) (some (.int (iI (lw z (zF z k) (zO z k) t)))) (bset M b S) := by
  have hd := hZ.dims
  refine Spec_of [some (.ref b), some (.int (nI k)), some (.int (nI t))] (by decide) (Nat.le_of_ble_eq_true rfl) rfl ?_
  refine r_aload0 (pc := 0) dX0_leastAt_0 ?_
  refine r_aload0 (pc := 1) dX0_leastAt_1 ?_
  refine r_getf (pc := 2) fl_X0_12 dX0_leastAt_2 (bget0 rfl) rfl ?_
  refine r_getf (pc := 5) fl_X0_109 dX0_leastAt_5 (bget rfl) rfl ?_
  refine r_iload1 (pc := 8) dX0_leastAt_8 ?_
  refine r_callN2i (pc := 9) lk_X0_115 dX0_leastAt_9 (s_at (bget rfl) (by omega) (by decide) (hI.F hk)) (by decide) (Nat.le_of_ble_eq_true rfl) ⟨Nat.zero_le _, Nat.zero_le _⟩ ?_
  refine r_aload0 (pc := 12) dX0_leastAt_12 ?_
  refine r_getf (pc := 13) fl_X0_12 dX0_leastAt_13 (bget0 rfl) rfl ?_
  refine r_getf (pc := 16) fl_X0_112 dX0_leastAt_16 (bget rfl) rfl ?_
  refine r_iload1 (pc := 19) dX0_leastAt_19 ?_
  refine r_callN2i (pc := 20) lk_X0_115 dX0_leastAt_20 (s_at (bget rfl) (by omega) (by decide) (hI.O hk)) (by decide) (Nat.le_of_ble_eq_true rfl) ⟨Nat.zero_le _, Nat.zero_le _⟩ ?_
  refine r_iload2 (pc := 23) dX0_leastAt_23 ?_
  refine r_callV3i (pc := 24) lk_X0_134 dX0_leastAt_24 (bget0 rfl) (s_leastWith hI hZ (hZ.fq hk) (hZ.oq hk) ht) (by decide) (Nat.le_of_ble_eq_true rfl) ⟨Nat.zero_le _, Nat.zero_le _⟩ ?_
  exact r_ireturn (pc := 27) false rfl rfl rfl dX0_leastAt_27 (Nat.zero_le _) (Nat.zero_le _) (Or.inl rfl) rfl rfl rfl
set_option maxRecDepth 20000 in
theorem s_turnGain (hI : InvB S z) (hZ : ZOK z) {k : Nat} (hk : k < zt z) : Spec mX0_turnGain 3 0 0 [.ref b, .int (nI k)] (bset M b S) (some (.int (iI (tgZ z k)))) (bset M b S) := by
  have hd := hZ.dims
  have hu := hZ.u hk
  refine Spec_of [some (.ref b), some (.int (nI k)), none] (by decide) (Nat.le_of_ble_eq_true rfl) rfl ?_
  refine r_aload0 (pc := 0) dX0_turnGain_0 ?_
  refine r_getf (pc := 1) fl_X0_12 dX0_turnGain_1 (bget0 rfl) rfl ?_
  refine r_getf (pc := 4) fl_X0_66 dX0_turnGain_4 (bget rfl) rfl ?_
  refine r_iload1 (pc := 7) dX0_turnGain_7 ?_
  refine r_callN2i (pc := 8) lk_X0_115 dX0_turnGain_8 (s_at (bget rfl) (by omega) (by decide) (hI.U hk)) (by decide) (Nat.le_of_ble_eq_true rfl) ⟨Nat.zero_le _, Nat.zero_le _⟩ ?_
  refine r_istore2 (pc := 11) dX0_turnGain_11 rfl ?_
  refine r_aload0 (pc := 12) dX0_turnGain_12 ?_
  refine r_iload1 (pc := 13) dX0_turnGain_13 ?_
  refine r_iload2 (pc := 14) dX0_turnGain_14 ?_
  refine r_callV2i (pc := 15) lk_X0_123 dX0_turnGain_15 (bget0 rfl) (s_errorLaid hI hZ hk (by omega)) (by decide) (Nat.le_of_ble_eq_true rfl) ⟨Nat.zero_le _, Nat.zero_le _⟩ ?_
  refine r_aload0 (pc := 18) dX0_turnGain_18 ?_
  refine r_iload1 (pc := 19) dX0_turnGain_19 ?_
  refine n_iconst_1 (pc := 20) dX0_turnGain_20 ?_
  refine r_iload2 (pc := 21) dX0_turnGain_21 ?_
  refine n_isub (pc := 22) dX0_turnGain_22 (by omega) ?_
  refine r_callV2i (pc := 23) lk_X0_123 dX0_turnGain_23 (bget0 rfl) (s_errorLaid hI hZ hk (by omega)) (by decide) (Nat.le_of_ble_eq_true rfl) ⟨Nat.zero_le _, Nat.zero_le _⟩ ?_
  first | refine n_isubI (pc := 26) dX0_turnGain_26 ?_ | refine z_isub (pc := 26) dX0_turnGain_26 ?_ | refine r_isub (pc := 26) dX0_turnGain_26 ?_
  exact r_ireturn (pc := 27) false rfl rfl rfl dX0_turnGain_27 (Nat.zero_le _) (Nat.zero_le _) (Or.inl rfl) rfl rfl rfl
set_option maxRecDepth 20000 in
theorem s_swapGain (hI : InvB S z) (hZ : ZOK z) {j k : Nat} (hj : j < zt z) (hk : k < zt z) : Spec mX0_swapGain 4 0 0 [.ref b, .int (nI j), .int (nI k)] (bset M b S) (some (.int (iI (sgZ z j k)))) (bset M b S) := by
  have hd := hZ.dims
  refine Spec_of [some (.ref b), some (.int (nI j)), some (.int (nI k))] (by decide) (Nat.le_of_ble_eq_true rfl) rfl ?_
  refine r_aload0 (pc := 0) dX0_swapGain_0 ?_
  refine r_iload1 (pc := 1) dX0_swapGain_1 ?_
  refine r_callV1i (pc := 2) lk_X0_138 dX0_swapGain_2 (bget0 rfl) (s_errorAt hI hZ hj) (by decide) (Nat.le_of_ble_eq_true rfl) ⟨Nat.zero_le _, Nat.zero_le _⟩ ?_
  refine r_aload0 (pc := 5) dX0_swapGain_5 ?_
  refine r_iload2 (pc := 6) dX0_swapGain_6 ?_
  refine r_callV1i (pc := 7) lk_X0_138 dX0_swapGain_7 (bget0 rfl) (s_errorAt hI hZ hk) (by decide) (Nat.le_of_ble_eq_true rfl) ⟨Nat.zero_le _, Nat.zero_le _⟩ ?_
  first | refine n_iadd (pc := 10) dX0_swapGain_10 ?_ | refine z_iadd (pc := 10) dX0_swapGain_10 ?_ | refine r_iadd (pc := 10) dX0_swapGain_10 ?_
  refine r_aload0 (pc := 11) dX0_swapGain_11 ?_
  refine r_iload1 (pc := 12) dX0_swapGain_12 ?_
  refine r_aload0 (pc := 13) dX0_swapGain_13 ?_
  refine r_getf (pc := 14) fl_X0_12 dX0_swapGain_14 (bget0 rfl) rfl ?_
  refine r_getf (pc := 17) fl_X0_82 dX0_swapGain_17 (bget rfl) rfl ?_
  refine r_iload2 (pc := 20) dX0_swapGain_20 ?_
  refine r_callN2i (pc := 21) lk_X0_115 dX0_swapGain_21 (s_at (bget rfl) (by omega) (by decide) (hI.T hk)) (by decide) (Nat.le_of_ble_eq_true rfl) ⟨Nat.zero_le _, Nat.zero_le _⟩ ?_
  refine r_callV2i (pc := 24) lk_X0_152 dX0_swapGain_24 (bget0 rfl) (s_leastAt hI hZ hj (hZ.t hk)) (by decide) (Nat.le_of_ble_eq_true rfl) ⟨Nat.zero_le _, Nat.zero_le _⟩ ?_
  first | refine n_isubI (pc := 27) dX0_swapGain_27 ?_ | refine z_isub (pc := 27) dX0_swapGain_27 ?_ | refine r_isub (pc := 27) dX0_swapGain_27 ?_
  refine r_aload0 (pc := 28) dX0_swapGain_28 ?_
  refine r_iload2 (pc := 29) dX0_swapGain_29 ?_
  refine r_aload0 (pc := 30) dX0_swapGain_30 ?_
  refine r_getf (pc := 31) fl_X0_12 dX0_swapGain_31 (bget0 rfl) rfl ?_
  refine r_getf (pc := 34) fl_X0_82 dX0_swapGain_34 (bget rfl) rfl ?_
  refine r_iload1 (pc := 37) dX0_swapGain_37 ?_
  refine r_callN2i (pc := 38) lk_X0_115 dX0_swapGain_38 (s_at (bget rfl) (by omega) (by decide) (hI.T hj)) (by decide) (Nat.le_of_ble_eq_true rfl) ⟨Nat.zero_le _, Nat.zero_le _⟩ ?_
  refine r_callV2i (pc := 41) lk_X0_152 dX0_swapGain_41 (bget0 rfl) (s_leastAt hI hZ hk (hZ.t hj)) (by decide) (Nat.le_of_ble_eq_true rfl) ⟨Nat.zero_le _, Nat.zero_le _⟩ ?_
  first | refine n_isubI (pc := 44) dX0_swapGain_44 ?_ | refine z_isub (pc := 44) dX0_swapGain_44 ?_ | refine r_isub (pc := 44) dX0_swapGain_44 ?_
  exact r_ireturn (pc := 45) false rfl rfl rfl dX0_swapGain_45 (Nat.zero_le _) (Nat.zero_le _) (Or.inl rfl) rfl rfl rfl
end BREAD
