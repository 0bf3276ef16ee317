theorem inL_ge {x : Int32} {a : Nat} (ha : a < 2147483648) : decide ((nI a).toInt64 ≤ x.toInt64) = decide ((a : Int) ≤ x.toInt) := by
  rw [decide_eq_decide, Int64.le_iff_toInt_le, Int32.toInt_toInt64, Int32.toInt_toInt64, nI_toInt ha]
theorem inL_le {x y : Int32} : decide (x.toInt64 ≤ y.toInt64) = decide (x.toInt ≤ y.toInt) := by
  rw [decide_eq_decide, Int64.le_iff_toInt_le, Int32.toInt_toInt64, Int32.toInt_toInt64]
theorem inL_0 {x : Int32} : decide ((0 : Int64) ≤ x.toInt64) = decide (0 ≤ x.toInt) := by
  rw [decide_eq_decide, Int64.le_iff_toInt_le, Int32.toInt_toInt64]; rfl
theorem inL_R {x : Int32} {n : Nat} (hn : n < 2147483648) : (decide ((0 : Int64) ≤ x.toInt64) && decide (x.toInt64 ≤ (iI ((n : Int) - ((1 : Nat) : Int))).toInt64)) = inR x n := by
  rw [inL_0, inL_le, iI_toInt (by omega) (by omega)]
  unfold inR
  by_cases h : 0 ≤ x.toInt <;> by_cases h2 : x.toInt < (n : Int)
  · rw [decide_eq_true h, decide_eq_true (show x.toInt ≤ (n : Int) - ((1 : Nat) : Int) by omega), decide_eq_true ⟨h, h2⟩]; rfl
  · rw [decide_eq_false (show ¬ x.toInt ≤ (n : Int) - ((1 : Nat) : Int) by omega), decide_eq_false (show ¬ (0 ≤ x.toInt ∧ x.toInt < (n : Int)) from fun q => h2 q.2), Bool.and_false]
  · rw [decide_eq_false h, decide_eq_false (show ¬ (0 ≤ x.toInt ∧ x.toInt < (n : Int)) from fun q => h q.1)]; rfl
  · rw [decide_eq_false h, decide_eq_false (show ¬ (0 ≤ x.toInt ∧ x.toInt < (n : Int)) from fun q => h q.1)]; rfl
section RLEAF
variable {M : Mem} {a : Nat} {f : Nat → Int32} {z : ZS}
theorem s8_in {v lo hi : Int64} : Spec mX8_in 1 0 0 [.long v, .long lo, .long hi] M (some (.int (bI (decide (lo ≤ v) && decide (v ≤ hi))))) M := by
  refine Spec_of [some (.long v), none, some (.long lo), none, some (.long hi), none] (by decide) (Nat.le_of_ble_eq_true rfl) rfl ?_
  refine r_lload0 (pc := 0) dX8_in_0 ?_
  refine r_lload2 (pc := 1) dX8_in_1 ?_
  refine r_lcmp (pc := 2) dX8_in_2 ?_
  refine r_if_lt (pc := 3) 17 (by decide) dX8_in_3 (fun h1 => ?_) (fun h1 => ?_)
  · have h2 : ¬ lo ≤ v := Int64.not_le.mpr ((lg_cmp_lt _ _).mp h1)
    refine n_iconst_0 (pc := 17) dX8_in_17 ?_
    exact r_ireturn (pc := 18) false rfl rfl (by decide) dX8_in_18 (Nat.zero_le _) (Nat.zero_le _) (Or.inl rfl) rfl (by rw [decide_eq_false h2]; rfl) rfl
  · have h2 : lo ≤ v := Int64.not_lt.mp (fun q => h1 ((lg_cmp_lt _ _).mpr q))
    refine r_lload0 (pc := 6) dX8_in_6 ?_
    refine r_lload4 (pc := 7) dX8_in_7 ?_
    refine r_lcmp (pc := 9) dX8_in_9 ?_
    refine r_if_gt (pc := 10) 17 (by decide) dX8_in_10 (fun h3 => ?_) (fun h3 => ?_)
    · have h4 : ¬ v ≤ hi := Int64.not_le.mpr ((lg_cmp_gt _ _).mp h3)
      refine n_iconst_0 (pc := 17) dX8_in_17 ?_
      exact r_ireturn (pc := 18) false rfl rfl (by decide) dX8_in_18 (Nat.zero_le _) (Nat.zero_le _) (Or.inl rfl) rfl (by rw [decide_eq_false h4, Bool.and_false]; rfl) rfl
    · have h4 : v ≤ hi := Int64.not_lt.mp (fun q => h3 ((lg_cmp_gt _ _).mpr q))
      refine n_iconst_1 (pc := 13) dX8_in_13 ?_
      refine r_goto (pc := 14) 18 (by decide) dX8_in_14 ?_
      exact r_ireturn (pc := 18) false rfl rfl (by decide) dX8_in_18 (Nat.zero_le _) (Nat.zero_le _) (Or.inl rfl) rfl (by rw [decide_eq_true h2, decide_eq_true h4]; rfl) rfl
theorem s8_inR {x : Int32} {n : Nat} (hn : n < 2147483648) : Spec mX8_in 1 0 0 [.long x.toInt64, .long 0, .long (iI ((n : Int) - ((1 : Nat) : Int))).toInt64] M (some (.int (bI (inR x n)))) M := by
  have h := s8_in (M := M) (v := x.toInt64) (lo := 0) (hi := (iI ((n : Int) - ((1 : Nat) : Int))).toInt64)
  rw [inL_R hn] at h
  exact h
theorem g8_wide (hM : M a = some (cI 563 f)) (hI : InvG f z) : Spec mX8_wide 1 0 0 [.ref a] M (some (.int (nI (zc z)))) M := by
  refine Spec_of [some (.ref a)] (by decide) (Nat.le_of_ble_eq_true rfl) rfl ?_
  refine r_aload0 (pc := 0) dX8_wide_0 ?_
  refine n_iconst_0 (pc := 1) dX8_wide_1 ?_
  refine n_iald (pc := 2) dX8_wide_2 hM (by decide) (by decide) hI.n ?_
  refine n_iconst_2 (pc := 3) dX8_wide_3 ?_
  first | refine n_iadd (pc := 4) dX8_wide_4 ?_ | refine z_iadd (pc := 4) dX8_wide_4 ?_ | refine r_iadd (pc := 4) dX8_wide_4 ?_
  exact r_ireturn (pc := 5) false rfl rfl rfl dX8_wide_5 (Nat.zero_le _) (Nat.zero_le _) (Or.inl rfl) rfl rfl rfl
theorem s8_wide (hM : M a = some (cI 563 f)) (hI : InvR f z) : Spec mX8_wide 1 0 0 [.ref a] M (some (.int (nI (zc z)))) M := g8_wide hM hI.toG
theorem g8_high (hM : M a = some (cI 563 f)) (hI : InvG f z) : Spec mX8_high 1 0 0 [.ref a] M (some (.int (nI (zr z)))) M := by
  refine Spec_of [some (.ref a)] (by decide) (Nat.le_of_ble_eq_true rfl) rfl ?_
  refine r_aload0 (pc := 0) dX8_high_0 ?_
  refine n_iconst_0 (pc := 1) dX8_high_1 ?_
  refine n_iald (pc := 2) dX8_high_2 hM (by decide) (by decide) hI.n ?_
  refine n_iconst_1 (pc := 3) dX8_high_3 ?_
  first | refine n_iadd (pc := 4) dX8_high_4 ?_ | refine z_iadd (pc := 4) dX8_high_4 ?_ | refine r_iadd (pc := 4) dX8_high_4 ?_
  refine r_aload0 (pc := 5) dX8_high_5 ?_
  refine n_iconst_1 (pc := 6) dX8_high_6 ?_
  refine n_iald (pc := 7) dX8_high_7 hM (by decide) (by decide) hI.s ?_
  first | refine n_imul (pc := 8) dX8_high_8 ?_ | refine z_imul (pc := 8) dX8_high_8 ?_ | refine r_imul (pc := 8) dX8_high_8 ?_
  exact r_ireturn (pc := 9) false rfl rfl rfl dX8_high_9 (Nat.zero_le _) (Nat.zero_le _) (Or.inl rfl) rfl rfl rfl
theorem s8_high (hM : M a = some (cI 563 f)) (hI : InvR f z) : Spec mX8_high 1 0 0 [.ref a] M (some (.int (nI (zr z)))) M := g8_high hM hI.toG
theorem g8_squares (hM : M a = some (cI 563 f)) (hI : InvG f z) : Spec mX8_squares 2 0 0 [.ref a] M (some (.int (nI (zq z)))) M := by
  refine Spec_of [some (.ref a)] (by decide) (Nat.le_of_ble_eq_true rfl) rfl ?_
  refine r_aload0 (pc := 0) dX8_squares_0 ?_
  refine r_callS1i (pc := 1) lk_X8_40 dX8_squares_1 (g8_wide hM hI) (by decide) (Nat.le_of_ble_eq_true rfl) ⟨Nat.zero_le _, Nat.zero_le _⟩ ?_
  refine r_aload0 (pc := 4) dX8_squares_4 ?_
  refine r_callS1i (pc := 5) lk_X8_44 dX8_squares_5 (g8_high hM hI) (by decide) (Nat.le_of_ble_eq_true rfl) ⟨Nat.zero_le _, Nat.zero_le _⟩ ?_
  first | refine n_imul (pc := 8) dX8_squares_8 ?_ | refine z_imul (pc := 8) dX8_squares_8 ?_ | refine r_imul (pc := 8) dX8_squares_8 ?_
  exact r_ireturn (pc := 9) false rfl rfl rfl dX8_squares_9 (Nat.zero_le _) (Nat.zero_le _) (Or.inl rfl) rfl rfl rfl
theorem s8_squares (hM : M a = some (cI 563 f)) (hI : InvR f z) : Spec mX8_squares 2 0 0 [.ref a] M (some (.int (nI (zq z)))) M := g8_squares hM hI.toG
theorem s8_tiles (hM : M a = some (cI 563 f)) (hI : InvR f z) (hZ : ZOK z) : Spec mX8_tiles 3 0 0 [.ref a] M (some (.int (nI (zt z)))) M := by
  have hd := hZ.dims
  refine Spec_of [some (.ref a)] (by decide) (Nat.le_of_ble_eq_true rfl) rfl ?_
  refine r_aload0 (pc := 0) dX8_tiles_0 ?_
  refine r_callS1i (pc := 1) lk_X8_47 dX8_tiles_1 (s8_squares hM hI) (by decide) (Nat.le_of_ble_eq_true rfl) ⟨Nat.zero_le _, Nat.zero_le _⟩ ?_
  refine n_iconst_2 (pc := 4) dX8_tiles_4 ?_
  refine n_idiv (pc := 5) dX8_tiles_5 (by omega) (by omega) (by omega) ?_
  exact r_ireturn (pc := 6) false rfl rfl rfl dX8_tiles_6 (Nat.zero_le _) (Nat.zero_le _) (Or.inl rfl) rfl rfl rfl
theorem s8_isSquare (hM : M a = some (cI 563 f)) (hI : InvR f z) (hZ : ZOK z) {x y : Int32} : Spec mX8_isSquare 2 0 0 [.ref a, .int x, .int y] M (some (.int (bI (inR x (zc z) && inR y (zr z))))) M := by
  have hd := hZ.dims
  refine Spec_of [some (.ref a), some (.int x), some (.int y)] (by decide) (Nat.le_of_ble_eq_true rfl) rfl ?_
  refine r_iload1 (pc := 0) dX8_isSquare_0 ?_
  refine r_i2l (pc := 1) dX8_isSquare_1 ?_
  refine r_lconst_0 (pc := 2) dX8_isSquare_2 ?_
  refine r_aload0 (pc := 3) dX8_isSquare_3 ?_
  refine r_callS1i (pc := 4) lk_X8_40 dX8_isSquare_4 (s8_wide hM hI) (by decide) (Nat.le_of_ble_eq_true rfl) ⟨Nat.zero_le _, Nat.zero_le _⟩ ?_
  refine n_iconst_1 (pc := 7) dX8_isSquare_7 ?_
  first | refine n_isubI (pc := 8) dX8_isSquare_8 ?_ | refine z_isub (pc := 8) dX8_isSquare_8 ?_ | refine r_isub (pc := 8) dX8_isSquare_8 ?_
  refine r_i2l (pc := 9) dX8_isSquare_9 ?_
  refine r_callS3i (pc := 10) lk_X8_50 dX8_isSquare_10 (s8_inR (by omega)) (by decide) (Nat.le_of_ble_eq_true rfl) ⟨Nat.zero_le _, Nat.zero_le _⟩ ?_
  refine b_if_eq (pc := 13) 36 (by decide) dX8_isSquare_13 (fun h1 => ?_) (fun h1 => ?_)
  · refine n_iconst_0 (pc := 36) dX8_isSquare_36 ?_
    exact r_ireturn (pc := 37) false rfl rfl (by decide) dX8_isSquare_37 (Nat.zero_le _) (Nat.zero_le _) (Or.inl rfl) rfl (by rw [h1]; rfl) rfl
  · refine r_iload2 (pc := 16) dX8_isSquare_16 ?_
    refine r_i2l (pc := 17) dX8_isSquare_17 ?_
    refine r_lconst_0 (pc := 18) dX8_isSquare_18 ?_
    refine r_aload0 (pc := 19) dX8_isSquare_19 ?_
    refine r_callS1i (pc := 20) lk_X8_44 dX8_isSquare_20 (s8_high hM hI) (by decide) (Nat.le_of_ble_eq_true rfl) ⟨Nat.zero_le _, Nat.zero_le _⟩ ?_
    refine n_iconst_1 (pc := 23) dX8_isSquare_23 ?_
    first | refine n_isubI (pc := 24) dX8_isSquare_24 ?_ | refine z_isub (pc := 24) dX8_isSquare_24 ?_ | refine r_isub (pc := 24) dX8_isSquare_24 ?_
    refine r_i2l (pc := 25) dX8_isSquare_25 ?_
    refine r_callS3i (pc := 26) lk_X8_50 dX8_isSquare_26 (s8_inR (by omega)) (by decide) (Nat.le_of_ble_eq_true rfl) ⟨Nat.zero_le _, Nat.zero_le _⟩ ?_
    refine b_if_eq (pc := 29) 36 (by decide) dX8_isSquare_29 (fun h2 => ?_) (fun h2 => ?_)
    · refine n_iconst_0 (pc := 36) dX8_isSquare_36 ?_
      exact r_ireturn (pc := 37) false rfl rfl (by decide) dX8_isSquare_37 (Nat.zero_le _) (Nat.zero_le _) (Or.inl rfl) rfl (by rw [h1, h2]; rfl) rfl
    · refine n_iconst_1 (pc := 32) dX8_isSquare_32 ?_
      refine r_goto (pc := 33) 37 (by decide) dX8_isSquare_33 ?_
      exact r_ireturn (pc := 37) false rfl rfl (by decide) dX8_isSquare_37 (Nat.zero_le _) (Nat.zero_le _) (Or.inl rfl) rfl (by rw [h1, h2]; rfl) rfl
theorem s8_isPlace (hM : M a = some (cI 563 f)) (hI : InvR f z) (hZ : ZOK z) {x : Int32} : Spec mX8_isPlace 4 0 0 [.ref a, .int x] M (some (.int (bI (inR x (zt z))))) M := by
  have hd := hZ.dims
  refine Spec_of [some (.ref a), some (.int x)] (by decide) (Nat.le_of_ble_eq_true rfl) rfl ?_
  refine r_iload1 (pc := 0) dX8_isPlace_0 ?_
  refine r_i2l (pc := 1) dX8_isPlace_1 ?_
  refine r_lconst_0 (pc := 2) dX8_isPlace_2 ?_
  refine r_aload0 (pc := 3) dX8_isPlace_3 ?_
  refine r_callS1i (pc := 4) lk_X8_54 dX8_isPlace_4 (s8_tiles hM hI hZ) (by decide) (Nat.le_of_ble_eq_true rfl) ⟨Nat.zero_le _, Nat.zero_le _⟩ ?_
  refine n_iconst_1 (pc := 7) dX8_isPlace_7 ?_
  first | refine n_isubI (pc := 8) dX8_isPlace_8 ?_ | refine z_isub (pc := 8) dX8_isPlace_8 ?_ | refine r_isub (pc := 8) dX8_isPlace_8 ?_
  refine r_i2l (pc := 9) dX8_isPlace_9 ?_
  refine r_callS3i (pc := 10) lk_X8_50 dX8_isPlace_10 (s8_inR (by omega)) (by decide) (Nat.le_of_ble_eq_true rfl) ⟨Nat.zero_le _, Nat.zero_le _⟩ ?_
  exact r_ireturn (pc := 13) false rfl rfl (nar_bI _) dX8_isPlace_13 (Nat.zero_le _) (Nat.zero_le _) (Or.inl rfl) rfl rfl rfl
theorem tT_b {n : Nat} (h1 : 2 ≤ n) (h2 : n ≤ 6) : 12 ≤ (n + 1) * (n + 2) ∧ (n + 1) * (n + 2) ≤ 56 ∧ tT n = (n + 1) * (n + 2) / 2 := by
  have e : n = 2 ∨ n = 3 ∨ n = 4 ∨ n = 5 ∨ n = 6 := by omega
  rcases e with e | e | e | e | e <;> subst e <;> decide
set_option maxRecDepth 20000 in
theorem g8_lowPips (hM : M a = some (cI 563 f)) (hI : InvG f z) (hZ : ZOK z) {t : Nat} (ht : t < 2147483648) : Spec mX8_lowPips 1 0 0 [.ref a, .int (nI t)] M (some (.int (nI (plo (zn z) t)))) M := by
  have hn := hZ.n
  obtain ⟨b1, b2, b3⟩ := tT_b hn.1 hn.2.1
  refine Spec_of [some (.ref a), some (.int (nI t)), none, none, none] (by decide) (Nat.le_of_ble_eq_true rfl) rfl ?_
  have lp : ∀ (fu r i : Nat), i ≤ zn z → i + fu = 8 → r + offs (zn z) i < tT (zn z) → (pl (zn z) fu r i).1 = plo (zn z) t →
    G mX8_lowPips 1 (.inl false) 0 0 (dT (some (.int (nI (plo (zn z) t)))) M) none 0 0 19 [some (.ref a), some (.int (nI t)), some (.int (nI (zn z))), some (.int (nI r)), some (.int (nI i))] [] M
    := by
    intro fu
    induction fu with
    | zero => intro r i h1 h2; omega
    | succ fu ih =>
      intro r i h1 h2 h3 h4
      obtain ⟨o1, o2, o3⟩ := off_facts (zn z) (by omega) i (by omega) hn.1 h1
      refine r_iload3 (pc := 19) dX8_lowPips_19 ?_
      refine r_iload2 (pc := 20) dX8_lowPips_20 ?_
      refine r_iload4 (pc := 21) dX8_lowPips_21 ?_
      refine n_isub (pc := 23) dX8_lowPips_23 (by omega) ?_
      refine n_icmp_le (pc := 24) 42 (by decide) dX8_lowPips_24 (by omega) (by omega) (fun h9 => ?_) (fun h9 => ?_)
      · have e : plo (zn z) t = i := by rw [← h4]; unfold pl; rw [if_neg (by omega)]
        refine r_iload4 (pc := 42) dX8_lowPips_42 ?_
        exact r_ireturn (pc := 44) false rfl rfl rfl dX8_lowPips_44 (Nat.zero_le _) (Nat.zero_le _) (Or.inl rfl) rfl (by rw [e]) rfl
      · have hi : i < zn z := by
          rcases Nat.lt_or_ge i (zn z) with q | q
          · exact q
          · have e : i = zn z := by omega
            rw [e] at o1 h3
            omega
        refine r_iload3 (pc := 27) dX8_lowPips_27 ?_
        refine r_iload2 (pc := 28) dX8_lowPips_28 ?_
        refine r_iload4 (pc := 29) dX8_lowPips_29 ?_
        refine n_isub (pc := 31) dX8_lowPips_31 (by omega) ?_
        refine n_iconst_1 (pc := 32) dX8_lowPips_32 ?_
        first | refine n_iadd (pc := 33) dX8_lowPips_33 ?_ | refine z_iadd (pc := 33) dX8_lowPips_33 ?_ | refine r_iadd (pc := 33) dX8_lowPips_33 ?_
        refine n_isub (pc := 34) dX8_lowPips_34 (by omega) ?_
        refine r_istore3 (pc := 35) dX8_lowPips_35 rfl ?_
        refine n_iinc4 (pc := 36) dX8_lowPips_36 rfl ?_
        refine r_goto (pc := 39) 19 (by decide) dX8_lowPips_39 ?_
        refine ih (r - (zn z - i + 1)) (i + 1) (by omega) (by omega) (by omega) ?_
        rw [← h4]
        show _ = (pl (zn z) (fu + 1) r i).1
        unfold pl
        rw [if_pos (by omega)]
        cases fu <;> rfl
  refine r_aload0 (pc := 0) dX8_lowPips_0 ?_
  refine n_iconst_0 (pc := 1) dX8_lowPips_1 ?_
  refine n_iald (pc := 2) dX8_lowPips_2 hM (by decide) (by decide) hI.n ?_
  refine r_istore2 (pc := 3) dX8_lowPips_3 rfl ?_
  refine r_iload1 (pc := 4) dX8_lowPips_4 ?_
  refine r_iload2 (pc := 5) dX8_lowPips_5 ?_
  refine n_iconst_1 (pc := 6) dX8_lowPips_6 ?_
  first | refine n_iadd (pc := 7) dX8_lowPips_7 ?_ | refine z_iadd (pc := 7) dX8_lowPips_7 ?_ | refine r_iadd (pc := 7) dX8_lowPips_7 ?_
  refine r_iload2 (pc := 8) dX8_lowPips_8 ?_
  refine n_iconst_2 (pc := 9) dX8_lowPips_9 ?_
  first | refine n_iadd (pc := 10) dX8_lowPips_10 ?_ | refine z_iadd (pc := 10) dX8_lowPips_10 ?_ | refine r_iadd (pc := 10) dX8_lowPips_10 ?_
  first | refine n_imul (pc := 11) dX8_lowPips_11 ?_ | refine z_imul (pc := 11) dX8_lowPips_11 ?_ | refine r_imul (pc := 11) dX8_lowPips_11 ?_
  refine n_iconst_2 (pc := 12) dX8_lowPips_12 ?_
  refine n_idiv (pc := 13) dX8_lowPips_13 (by omega) (by omega) (by omega) ?_
  refine n_irem (pc := 14) dX8_lowPips_14 (by omega) (by omega) (by omega) ?_
  refine r_istore3 (pc := 15) dX8_lowPips_15 rfl ?_
  refine n_iconst_0 (pc := 16) dX8_lowPips_16 ?_
  refine r_istore4 (pc := 17) dX8_lowPips_17 rfl ?_
  refine lp 8 _ 0 (by omega) rfl ?_ rfl
  obtain ⟨o1, o2, o3⟩ := off_facts (zn z) (by omega) 0 (by omega) hn.1 (by omega)
  rw [o3, b3]
  have : t % ((zn z + 1) * (zn z + 2) / 2) < (zn z + 1) * (zn z + 2) / 2 := Nat.mod_lt _ (by omega)
  omega
theorem s8_lowPips (hM : M a = some (cI 563 f)) (hI : InvR f z) (hZ : ZOK z) {t : Nat} (ht : t < 2147483648) : Spec mX8_lowPips 1 0 0 [.ref a, .int (nI t)] M (some (.int (nI (plo (zn z) t)))) M := g8_lowPips hM hI.toG hZ ht
set_option maxRecDepth 20000 in
theorem g8_highPips (hM : M a = some (cI 563 f)) (hI : InvG f z) (hZ : ZOK z) {t : Nat} (ht : t < 2147483648) : Spec mX8_highPips 1 0 0 [.ref a, .int (nI t)] M (some (.int (nI (phi (zn z) t)))) M := by
  have hn := hZ.n
  obtain ⟨b1, b2, b3⟩ := tT_b hn.1 hn.2.1
  refine Spec_of [some (.ref a), some (.int (nI t)), none, none, none] (by decide) (Nat.le_of_ble_eq_true rfl) rfl ?_
  have lp : ∀ (fu r i : Nat), i ≤ zn z → i + fu = 8 → r + offs (zn z) i < tT (zn z) → (pl (zn z) fu r i).2 = phi (zn z) t →
    G mX8_highPips 1 (.inl false) 0 0 (dT (some (.int (nI (phi (zn z) t)))) M) none 0 0 19 [some (.ref a), some (.int (nI t)), some (.int (nI (zn z))), some (.int (nI r)), some (.int (nI i))] [] M
    := by
    intro fu
    induction fu with
    | zero => intro r i h1 h2; omega
    | succ fu ih =>
      intro r i h1 h2 h3 h4
      obtain ⟨o1, o2, o3⟩ := off_facts (zn z) (by omega) i (by omega) hn.1 h1
      refine r_iload3 (pc := 19) dX8_highPips_19 ?_
      refine r_iload2 (pc := 20) dX8_highPips_20 ?_
      refine r_iload4 (pc := 21) dX8_highPips_21 ?_
      refine n_isub (pc := 23) dX8_highPips_23 (by omega) ?_
      refine n_icmp_le (pc := 24) 42 (by decide) dX8_highPips_24 (by omega) (by omega) (fun h9 => ?_) (fun h9 => ?_)
      · have e : phi (zn z) t = i + r := by rw [← h4]; unfold pl; rw [if_neg (by omega)]
        refine r_iload4 (pc := 42) dX8_highPips_42 ?_
        refine r_iload3 (pc := 44) dX8_highPips_44 ?_
        first | refine n_iadd (pc := 45) dX8_highPips_45 ?_ | refine z_iadd (pc := 45) dX8_highPips_45 ?_ | refine r_iadd (pc := 45) dX8_highPips_45 ?_
        exact r_ireturn (pc := 46) false rfl rfl rfl dX8_highPips_46 (Nat.zero_le _) (Nat.zero_le _) (Or.inl rfl) rfl (by rw [e]) rfl
      · have hi : i < zn z := by
          rcases Nat.lt_or_ge i (zn z) with q | q
          · exact q
          · have e : i = zn z := by omega
            rw [e] at o1 h3
            omega
        refine r_iload3 (pc := 27) dX8_highPips_27 ?_
        refine r_iload2 (pc := 28) dX8_highPips_28 ?_
        refine r_iload4 (pc := 29) dX8_highPips_29 ?_
        refine n_isub (pc := 31) dX8_highPips_31 (by omega) ?_
        refine n_iconst_1 (pc := 32) dX8_highPips_32 ?_
        first | refine n_iadd (pc := 33) dX8_highPips_33 ?_ | refine z_iadd (pc := 33) dX8_highPips_33 ?_ | refine r_iadd (pc := 33) dX8_highPips_33 ?_
        refine n_isub (pc := 34) dX8_highPips_34 (by omega) ?_
        refine r_istore3 (pc := 35) dX8_highPips_35 rfl ?_
        refine n_iinc4 (pc := 36) dX8_highPips_36 rfl ?_
        refine r_goto (pc := 39) 19 (by decide) dX8_highPips_39 ?_
        refine ih (r - (zn z - i + 1)) (i + 1) (by omega) (by omega) (by omega) ?_
        rw [← h4]
        show _ = (pl (zn z) (fu + 1) r i).2
        unfold pl
        rw [if_pos (by omega)]
        cases fu <;> rfl
  refine r_aload0 (pc := 0) dX8_highPips_0 ?_
  refine n_iconst_0 (pc := 1) dX8_highPips_1 ?_
  refine n_iald (pc := 2) dX8_highPips_2 hM (by decide) (by decide) hI.n ?_
  refine r_istore2 (pc := 3) dX8_highPips_3 rfl ?_
  refine r_iload1 (pc := 4) dX8_highPips_4 ?_
  refine r_iload2 (pc := 5) dX8_highPips_5 ?_
  refine n_iconst_1 (pc := 6) dX8_highPips_6 ?_
  first | refine n_iadd (pc := 7) dX8_highPips_7 ?_ | refine z_iadd (pc := 7) dX8_highPips_7 ?_ | refine r_iadd (pc := 7) dX8_highPips_7 ?_
  refine r_iload2 (pc := 8) dX8_highPips_8 ?_
  refine n_iconst_2 (pc := 9) dX8_highPips_9 ?_
  first | refine n_iadd (pc := 10) dX8_highPips_10 ?_ | refine z_iadd (pc := 10) dX8_highPips_10 ?_ | refine r_iadd (pc := 10) dX8_highPips_10 ?_
  first | refine n_imul (pc := 11) dX8_highPips_11 ?_ | refine z_imul (pc := 11) dX8_highPips_11 ?_ | refine r_imul (pc := 11) dX8_highPips_11 ?_
  refine n_iconst_2 (pc := 12) dX8_highPips_12 ?_
  refine n_idiv (pc := 13) dX8_highPips_13 (by omega) (by omega) (by omega) ?_
  refine n_irem (pc := 14) dX8_highPips_14 (by omega) (by omega) (by omega) ?_
  refine r_istore3 (pc := 15) dX8_highPips_15 rfl ?_
  refine n_iconst_0 (pc := 16) dX8_highPips_16 ?_
  refine r_istore4 (pc := 17) dX8_highPips_17 rfl ?_
  refine lp 8 _ 0 (by omega) rfl ?_ rfl
  obtain ⟨o1, o2, o3⟩ := off_facts (zn z) (by omega) 0 (by omega) hn.1 (by omega)
  rw [o3, b3]
  have : t % ((zn z + 1) * (zn z + 2) / 2) < (zn z + 1) * (zn z + 2) / 2 := Nat.mod_lt _ (by omega)
  omega
theorem s8_highPips (hM : M a = some (cI 563 f)) (hI : InvR f z) (hZ : ZOK z) {t : Nat} (ht : t < 2147483648) : Spec mX8_highPips 1 0 0 [.ref a, .int (nI t)] M (some (.int (nI (phi (zn z) t)))) M := g8_highPips hM hI.toG hZ ht
theorem g8_half (hM : M a = some (cI 563 f)) (hI : InvG f z) (hZ : ZOK z) {p : Nat} (hp : p ≤ 6) : Spec mX8_half 1 0 0 [.ref a, .int (nI p)] M (some (.int (nI (sh (zn z) p)))) M := by
  have hn := hZ.n
  refine Spec_of [some (.ref a), some (.int (nI p))] (by decide) (Nat.le_of_ble_eq_true rfl) rfl ?_
  refine n_bipush (pc := 0) 99 (by decide) dX8_half_0 ?_
  refine r_iload1 (pc := 2) dX8_half_2 ?_
  first | refine n_imul (pc := 3) dX8_half_3 ?_ | refine z_imul (pc := 3) dX8_half_3 ?_ | refine r_imul (pc := 3) dX8_half_3 ?_
  refine r_aload0 (pc := 4) dX8_half_4 ?_
  refine n_iconst_0 (pc := 5) dX8_half_5 ?_
  refine n_iald (pc := 6) dX8_half_6 hM (by decide) (by decide) hI.n ?_
  refine n_idiv (pc := 7) dX8_half_7 (by omega) (by omega) (by omega) ?_
  exact r_ireturn (pc := 8) false rfl rfl rfl dX8_half_8 (Nat.zero_le _) (Nat.zero_le _) (Or.inl rfl) rfl rfl rfl
theorem s8_half (hM : M a = some (cI 563 f)) (hI : InvR f z) (hZ : ZOK z) {p : Nat} (hp : p ≤ 6) : Spec mX8_half 1 0 0 [.ref a, .int (nI p)] M (some (.int (nI (sh (zn z) p)))) M := g8_half hM hI.toG hZ hp
theorem g8_errorOf (hM : M a = some (cI 563 f)) (hI : InvG f z) (hZ : ZOK z) {s p : Nat} (hs : s < zq z) (hp : p ≤ 6) : Spec mX8_errorOf 2 0 0 [.ref a, .int (nI s), .int (nI p)] M (some (.int (iI (sqd (zG z s) (sh (zn z) p))))) M := by
  have hd := hZ.dims
  refine Spec_of [some (.ref a), some (.int (nI s)), some (.int (nI p)), none] (by decide) (Nat.le_of_ble_eq_true rfl) rfl ?_
  refine r_aload0 (pc := 0) dX8_errorOf_0 ?_
  refine n_iconst_3 (pc := 1) dX8_errorOf_1 ?_
  refine r_iload1 (pc := 2) dX8_errorOf_2 ?_
  first | refine n_iadd (pc := 3) dX8_errorOf_3 ?_ | refine z_iadd (pc := 3) dX8_errorOf_3 ?_ | refine r_iadd (pc := 3) dX8_errorOf_3 ?_
  refine n_iald (pc := 4) dX8_errorOf_4 hM (by omega) (by decide) (hI.G hs) ?_
  refine r_aload0 (pc := 5) dX8_errorOf_5 ?_
  refine r_iload2 (pc := 6) dX8_errorOf_6 ?_
  refine r_callS2i (pc := 7) lk_X8_57 dX8_errorOf_7 (g8_half hM hI hZ hp) (by decide) (Nat.le_of_ble_eq_true rfl) ⟨Nat.zero_le _, Nat.zero_le _⟩ ?_
  first | refine n_isubI (pc := 10) dX8_errorOf_10 ?_ | refine z_isub (pc := 10) dX8_errorOf_10 ?_ | refine r_isub (pc := 10) dX8_errorOf_10 ?_
  refine r_istore3 (pc := 11) dX8_errorOf_11 rfl ?_
  refine r_iload3 (pc := 12) dX8_errorOf_12 ?_
  refine r_iload3 (pc := 13) dX8_errorOf_13 ?_
  first | refine n_imul (pc := 14) dX8_errorOf_14 ?_ | refine z_imul (pc := 14) dX8_errorOf_14 ?_ | refine r_imul (pc := 14) dX8_errorOf_14 ?_
  exact r_ireturn (pc := 15) false rfl rfl rfl dX8_errorOf_15 (Nat.zero_le _) (Nat.zero_le _) (Or.inl rfl) rfl rfl rfl
theorem s8_errorOf (hM : M a = some (cI 563 f)) (hI : InvR f z) (hZ : ZOK z) {s p : Nat} (hs : s < zq z) (hp : p ≤ 6) : Spec mX8_errorOf 2 0 0 [.ref a, .int (nI s), .int (nI p)] M (some (.int (iI (sqd (zG z s) (sh (zn z) p))))) M := g8_errorOf hM hI.toG hZ hs hp
set_option maxRecDepth 20000 in
theorem g8_errorOn (hM : M a = some (cI 563 f)) (hI : InvG f z) (hZ : ZOK z) {s o t u : Nat} (hs : s < zq z) (ho : o < zq z) (ht : t < zt z) (hu : u ≤ 1) : Spec mX8_errorOn 3 0 0 [.ref a, .int (nI s), .int (nI o), .int (nI t), .int (nI u)] M (some (.int (iI (e4 z s o t u)))) M := by
  have hd := hZ.dims
  have hn := hZ.n
  have hp := hZ.pips ht
  refine Spec_of [some (.ref a), some (.int (nI s)), some (.int (nI o)), some (.int (nI t)), some (.int (nI u)), none, none] (by decide) (Nat.le_of_ble_eq_true rfl) rfl ?_
  have c : u = 0 ∨ u = 1 := by omega
  rcases c with c | c <;> subst c
  · refine r_iload4 (pc := 0) dX8_errorOn_0 ?_
    refine n_iconst_1 (pc := 2) dX8_errorOn_2 ?_
    refine n_icmp_ne (pc := 3) 14 (by decide) dX8_errorOn_3 (by omega) (by omega) (fun hc3 => ?_) (fun hc3 => absurd hc3 (by omega))
    refine r_aload0 (pc := 14) dX8_errorOn_14 ?_
    refine r_iload3 (pc := 15) dX8_errorOn_15 ?_
    refine r_callS2i (pc := 16) lk_X8_64 dX8_errorOn_16 (g8_lowPips hM hI hZ (by omega)) (by decide) (Nat.le_of_ble_eq_true rfl) ⟨Nat.zero_le _, Nat.zero_le _⟩ ?_
    refine r_istore5 (pc := 19) dX8_errorOn_19 rfl ?_
    refine r_iload4 (pc := 21) dX8_errorOn_21 ?_
    refine n_iconst_1 (pc := 23) dX8_errorOn_23 ?_
    refine n_icmp_ne (pc := 24) 35 (by decide) dX8_errorOn_24 (by omega) (by omega) (fun hc24 => ?_) (fun hc24 => absurd hc24 (by omega))
    refine r_aload0 (pc := 35) dX8_errorOn_35 ?_
    refine r_iload3 (pc := 36) dX8_errorOn_36 ?_
    refine r_callS2i (pc := 37) lk_X8_61 dX8_errorOn_37 (g8_highPips hM hI hZ (by omega)) (by decide) (Nat.le_of_ble_eq_true rfl) ⟨Nat.zero_le _, Nat.zero_le _⟩ ?_
    refine r_istore6 (pc := 40) dX8_errorOn_40 rfl ?_
    refine r_aload0 (pc := 42) dX8_errorOn_42 ?_
    refine r_iload1 (pc := 43) dX8_errorOn_43 ?_
    refine r_iload5 (pc := 44) dX8_errorOn_44 ?_
    refine r_callS3i (pc := 46) lk_X8_67 dX8_errorOn_46 (g8_errorOf hM hI hZ hs (by omega)) (by decide) (Nat.le_of_ble_eq_true rfl) ⟨Nat.zero_le _, Nat.zero_le _⟩ ?_
    refine r_aload0 (pc := 49) dX8_errorOn_49 ?_
    refine r_iload2 (pc := 50) dX8_errorOn_50 ?_
    refine r_iload6 (pc := 51) dX8_errorOn_51 ?_
    refine r_callS3i (pc := 53) lk_X8_67 dX8_errorOn_53 (g8_errorOf hM hI hZ ho (by omega)) (by decide) (Nat.le_of_ble_eq_true rfl) ⟨Nat.zero_le _, Nat.zero_le _⟩ ?_
    first | refine n_iadd (pc := 56) dX8_errorOn_56 ?_ | refine z_iadd (pc := 56) dX8_errorOn_56 ?_ | refine r_iadd (pc := 56) dX8_errorOn_56 ?_
    exact r_ireturn (pc := 57) false rfl rfl rfl dX8_errorOn_57 (Nat.zero_le _) (Nat.zero_le _) (Or.inl rfl) rfl (by rw [e4_0]; rfl) rfl
  · refine r_iload4 (pc := 0) dX8_errorOn_0 ?_
    refine n_iconst_1 (pc := 2) dX8_errorOn_2 ?_
    refine n_icmp_ne (pc := 3) 14 (by decide) dX8_errorOn_3 (by omega) (by omega) (fun hc3 => absurd hc3 (by omega)) (fun hc3 => ?_)
    refine r_aload0 (pc := 6) dX8_errorOn_6 ?_
    refine r_iload3 (pc := 7) dX8_errorOn_7 ?_
    refine r_callS2i (pc := 8) lk_X8_61 dX8_errorOn_8 (g8_highPips hM hI hZ (by omega)) (by decide) (Nat.le_of_ble_eq_true rfl) ⟨Nat.zero_le _, Nat.zero_le _⟩ ?_
    refine r_goto (pc := 11) 19 (by decide) dX8_errorOn_11 ?_
    refine r_istore5 (pc := 19) dX8_errorOn_19 rfl ?_
    refine r_iload4 (pc := 21) dX8_errorOn_21 ?_
    refine n_iconst_1 (pc := 23) dX8_errorOn_23 ?_
    refine n_icmp_ne (pc := 24) 35 (by decide) dX8_errorOn_24 (by omega) (by omega) (fun hc24 => absurd hc24 (by omega)) (fun hc24 => ?_)
    refine r_aload0 (pc := 27) dX8_errorOn_27 ?_
    refine r_iload3 (pc := 28) dX8_errorOn_28 ?_
    refine r_callS2i (pc := 29) lk_X8_64 dX8_errorOn_29 (g8_lowPips hM hI hZ (by omega)) (by decide) (Nat.le_of_ble_eq_true rfl) ⟨Nat.zero_le _, Nat.zero_le _⟩ ?_
    refine r_goto (pc := 32) 40 (by decide) dX8_errorOn_32 ?_
    refine r_istore6 (pc := 40) dX8_errorOn_40 rfl ?_
    refine r_aload0 (pc := 42) dX8_errorOn_42 ?_
    refine r_iload1 (pc := 43) dX8_errorOn_43 ?_
    refine r_iload5 (pc := 44) dX8_errorOn_44 ?_
    refine r_callS3i (pc := 46) lk_X8_67 dX8_errorOn_46 (g8_errorOf hM hI hZ hs (by omega)) (by decide) (Nat.le_of_ble_eq_true rfl) ⟨Nat.zero_le _, Nat.zero_le _⟩ ?_
    refine r_aload0 (pc := 49) dX8_errorOn_49 ?_
    refine r_iload2 (pc := 50) dX8_errorOn_50 ?_
    refine r_iload6 (pc := 51) dX8_errorOn_51 ?_
    refine r_callS3i (pc := 53) lk_X8_67 dX8_errorOn_53 (g8_errorOf hM hI hZ ho (by omega)) (by decide) (Nat.le_of_ble_eq_true rfl) ⟨Nat.zero_le _, Nat.zero_le _⟩ ?_
    first | refine n_iadd (pc := 56) dX8_errorOn_56 ?_ | refine z_iadd (pc := 56) dX8_errorOn_56 ?_ | refine r_iadd (pc := 56) dX8_errorOn_56 ?_
    exact r_ireturn (pc := 57) false rfl rfl rfl dX8_errorOn_57 (Nat.zero_le _) (Nat.zero_le _) (Or.inl rfl) rfl (by rw [e4_1]; rfl) rfl
theorem s8_errorOn (hM : M a = some (cI 563 f)) (hI : InvR f z) (hZ : ZOK z) {s o t u : Nat} (hs : s < zq z) (ho : o < zq z) (ht : t < zt z) (hu : u ≤ 1) : Spec mX8_errorOn 3 0 0 [.ref a, .int (nI s), .int (nI o), .int (nI t), .int (nI u)] M (some (.int (iI (e4 z s o t u)))) M := g8_errorOn hM hI.toG hZ hs ho ht hu
theorem g8_bestWay (hM : M a = some (cI 563 f)) (hI : InvG f z) (hZ : ZOK z) {s o t : Nat} (hs : s < zq z) (ho : o < zq z) (ht : t < zt z) : Spec mX8_bestWay 4 0 0 [.ref a, .int (nI s), .int (nI o), .int (nI t)] M (some (.int (nI (bet z s o t)))) M := by
  have b0 := hZ.e4B (u := 0) hs ho ht
  have b1 := hZ.e4B (u := 1) hs ho ht
  refine Spec_of [some (.ref a), some (.int (nI s)), some (.int (nI o)), some (.int (nI t))] (by decide) (Nat.le_of_ble_eq_true rfl) rfl ?_
  refine r_aload0 (pc := 0) dX8_bestWay_0 ?_
  refine r_iload1 (pc := 1) dX8_bestWay_1 ?_
  refine r_iload2 (pc := 2) dX8_bestWay_2 ?_
  refine r_iload3 (pc := 3) dX8_bestWay_3 ?_
  refine n_iconst_0 (pc := 4) dX8_bestWay_4 ?_
  refine r_callS5i (pc := 5) lk_X8_71 dX8_bestWay_5 (g8_errorOn hM hI hZ hs ho ht (by omega)) (by decide) (Nat.le_of_ble_eq_true rfl) ⟨Nat.zero_le _, Nat.zero_le _⟩ ?_
  refine r_aload0 (pc := 8) dX8_bestWay_8 ?_
  refine r_iload1 (pc := 9) dX8_bestWay_9 ?_
  refine r_iload2 (pc := 10) dX8_bestWay_10 ?_
  refine r_iload3 (pc := 11) dX8_bestWay_11 ?_
  refine n_iconst_1 (pc := 12) dX8_bestWay_12 ?_
  refine r_callS5i (pc := 13) lk_X8_71 dX8_bestWay_13 (g8_errorOn hM hI hZ hs ho ht (by omega)) (by decide) (Nat.le_of_ble_eq_true rfl) ⟨Nat.zero_le _, Nat.zero_le _⟩ ?_
  have e : bet z s o t = if e4 z s o t 1 < e4 z s o t 0 then 1 else 0 := rfl
  refine z_icmp_le (pc := 16) 23 (by decide) dX8_bestWay_16 (by omega) (by omega) (by omega) (by omega) (fun h9 => ?_) (fun h9 => ?_)
  · rw [if_neg (by omega)] at e
    refine n_iconst_0 (pc := 23) dX8_bestWay_23 ?_
    exact r_ireturn (pc := 24) false rfl rfl rfl dX8_bestWay_24 (Nat.zero_le _) (Nat.zero_le _) (Or.inl rfl) rfl (by rw [e]) rfl
  · rw [if_pos (by omega)] at e
    refine n_iconst_1 (pc := 19) dX8_bestWay_19 ?_
    refine r_goto (pc := 20) 24 (by decide) dX8_bestWay_20 ?_
    exact r_ireturn (pc := 24) false rfl rfl rfl dX8_bestWay_24 (Nat.zero_le _) (Nat.zero_le _) (Or.inl rfl) rfl (by rw [e]) rfl
theorem s8_bestWay (hM : M a = some (cI 563 f)) (hI : InvR f z) (hZ : ZOK z) {s o t : Nat} (hs : s < zq z) (ho : o < zq z) (ht : t < zt z) : Spec mX8_bestWay 4 0 0 [.ref a, .int (nI s), .int (nI o), .int (nI t)] M (some (.int (nI (bet z s o t)))) M := g8_bestWay hM hI.toG hZ hs ho ht
theorem g8_bestError (hM : M a = some (cI 563 f)) (hI : InvG f z) (hZ : ZOK z) {s o t : Nat} (hs : s < zq z) (ho : o < zq z) (ht : t < zt z) : Spec mX8_bestError 5 0 0 [.ref a, .int (nI s), .int (nI o), .int (nI t)] M (some (.int (iI (lw z s o t)))) M := by
  refine Spec_of [some (.ref a), some (.int (nI s)), some (.int (nI o)), some (.int (nI t))] (by decide) (Nat.le_of_ble_eq_true rfl) rfl ?_
  refine r_aload0 (pc := 0) dX8_bestError_0 ?_
  refine r_iload1 (pc := 1) dX8_bestError_1 ?_
  refine r_iload2 (pc := 2) dX8_bestError_2 ?_
  refine r_iload3 (pc := 3) dX8_bestError_3 ?_
  refine r_aload0 (pc := 4) dX8_bestError_4 ?_
  refine r_iload1 (pc := 5) dX8_bestError_5 ?_
  refine r_iload2 (pc := 6) dX8_bestError_6 ?_
  refine r_iload3 (pc := 7) dX8_bestError_7 ?_
  refine r_callS4i (pc := 8) lk_X8_75 dX8_bestError_8 (g8_bestWay hM hI hZ hs ho ht) (by decide) (Nat.le_of_ble_eq_true rfl) ⟨Nat.zero_le _, Nat.zero_le _⟩ ?_
  refine r_callS5i (pc := 11) lk_X8_71 dX8_bestError_11 (g8_errorOn hM hI hZ hs ho ht (bet_le _ _ _ _)) (by decide) (Nat.le_of_ble_eq_true rfl) ⟨Nat.zero_le _, Nat.zero_le _⟩ ?_
  exact r_ireturn (pc := 14) false rfl rfl rfl dX8_bestError_14 (Nat.zero_le _) (Nat.zero_le _) (Or.inl rfl) rfl (by rw [e4_bet]) rfl
theorem s8_bestError (hM : M a = some (cI 563 f)) (hI : InvR f z) (hZ : ZOK z) {s o t : Nat} (hs : s < zq z) (ho : o < zq z) (ht : t < zt z) : Spec mX8_bestError 5 0 0 [.ref a, .int (nI s), .int (nI o), .int (nI t)] M (some (.int (iI (lw z s o t)))) M := g8_bestError hM hI.toG hZ hs ho ht
theorem s8_otherOf (hM : M a = some (cI 563 f)) (hI : InvR f z) (hZ : ZOK z) {k : Nat} (hk : k < zt z) : Spec mX8_otherOf 2 0 0 [.ref a, .int (nI (zF z k))] M (some (.int (nI (zO z k)))) M := by
  have hd := hZ.dims
  have hq := hZ.fq hk
  have hlp := lz_pos z k
  refine Spec_of [some (.ref a), some (.int (nI (zF z k)))] (by decide) (Nat.le_of_ble_eq_true rfl) rfl ?_
  refine r_aload0 (pc := 0) dX8_otherOf_0 ?_
  refine n_bipush (pc := 1) 115 (by decide) dX8_otherOf_1 ?_
  refine r_iload1 (pc := 3) dX8_otherOf_3 ?_
  first | refine n_iadd (pc := 4) dX8_otherOf_4 ?_ | refine z_iadd (pc := 4) dX8_otherOf_4 ?_ | refine r_iadd (pc := 4) dX8_otherOf_4 ?_
  refine n_iald (pc := 5) dX8_otherOf_5 hM (by omega) (by decide) (hI.L hk) ?_
  refine n_iconst_1 (pc := 6) dX8_otherOf_6 ?_
  rcases al_iff hZ hk with ⟨e1, e2, e3, e4⟩ | ⟨e1, e2, e4⟩
  · rw [e4]
    refine n_icmp_ne (pc := 7) 16 (by decide) dX8_otherOf_7 (by omega) (by omega) (fun hc7 => absurd hc7 (by omega)) (fun hc7 => ?_)
    refine r_iload1 (pc := 10) dX8_otherOf_10 ?_
    refine n_iconst_1 (pc := 11) dX8_otherOf_11 ?_
    first | refine n_iadd (pc := 12) dX8_otherOf_12 ?_ | refine z_iadd (pc := 12) dX8_otherOf_12 ?_ | refine r_iadd (pc := 12) dX8_otherOf_12 ?_
    refine r_goto (pc := 13) 22 (by decide) dX8_otherOf_13 ?_
    exact r_ireturn (pc := 22) false rfl rfl rfl dX8_otherOf_22 (Nat.zero_le _) (Nat.zero_le _) (Or.inl rfl) rfl (by rw [e2]) rfl
  · rw [e4]
    refine n_icmp_ne (pc := 7) 16 (by decide) dX8_otherOf_7 (by omega) (by omega) (fun hc7 => ?_) (fun hc7 => absurd hc7 (by omega))
    refine r_iload1 (pc := 16) dX8_otherOf_16 ?_
    refine r_aload0 (pc := 17) dX8_otherOf_17 ?_
    refine r_callS1i (pc := 18) lk_X8_40 dX8_otherOf_18 (s8_wide hM hI) (by decide) (Nat.le_of_ble_eq_true rfl) ⟨Nat.zero_le _, Nat.zero_le _⟩ ?_
    first | refine n_iadd (pc := 21) dX8_otherOf_21 ?_ | refine z_iadd (pc := 21) dX8_otherOf_21 ?_ | refine r_iadd (pc := 21) dX8_otherOf_21 ?_
    exact r_ireturn (pc := 22) false rfl rfl rfl dX8_otherOf_22 (Nat.zero_le _) (Nat.zero_le _) (Or.inl rfl) rfl (by rw [e2]) rfl
theorem iI_inc {z0 : Int} : iI z0 + Int32.ofInt 1 = iI (z0 + 1) := by
  rw [show Int32.ofInt 1 = iI 1 from rfl, iI_add]
theorem s8_firstOf (hM : M a = some (cI 563 f)) (hI : InvR f z) (hZ : ZOK z) {k : Nat} (hk : k < zt z) : Spec mX8_firstOf 1 0 0 [.ref a, .int (nI k)] M (some (.int (nI (zF z k)))) M := by
  have hd := hZ.dims
  have hq := hZ.fq hk
  refine Spec_of [some (.ref a), some (.int (nI k)), none, none] (by decide) (Nat.le_of_ble_eq_true rfl) rfl ?_
  refine r_iconst_m1 (pc := 0) dX8_firstOf_0 ?_
  refine r_istore2 (pc := 1) dX8_firstOf_1 rfl ?_
  refine r_iconst_m1 (pc := 2) dX8_firstOf_2 ?_
  refine r_istore3 (pc := 3) dX8_firstOf_3 rfl ?_
  rw [show (-1 : Int32) = iI (((0 : Nat) : Int) - 1) from iI_m1]
  refine up_to (N := zF z k + 1) (k := 0) (fun m =>
    G mX8_firstOf 1 (.inl false) 0 0 (dT (some (.int (nI (zF z k)))) M) none 0 0 4 [some (.ref a), some (.int (nI k)), some (.int (iI ((cnt z m : Int) - 1))), some (.int (iI ((m : Int) - 1)))] [] M
    ) ?_ (fun m hm ih => ?_) (Nat.zero_le _)
  · rw [cnt_succ hZ hk]
    refine r_iload2 (pc := 4) dX8_firstOf_4 ?_
    refine r_iload1 (pc := 5) dX8_firstOf_5 ?_
    rw [iI_nat k]
    refine z_icmp_ge (pc := 6) 32 (by decide) dX8_firstOf_6 (by omega) (by omega) (by omega) (by omega) (fun _ => ?_) (fun h9 => absurd h9 (by omega))
    refine r_iload3 (pc := 32) dX8_firstOf_32 ?_
    exact r_ireturn (pc := 33) false rfl rfl rfl dX8_firstOf_33 (Nat.zero_le _) (Nat.zero_le _) (Or.inl rfl) rfl (by rw [iI_nat]; congr 1; omega) rfl
  · obtain ⟨s1, s2⟩ := cnt_spec hZ m
    have s3 := s2 k hk
    refine r_iload2 (pc := 4) dX8_firstOf_4 ?_
    refine r_iload1 (pc := 5) dX8_firstOf_5 ?_
    rw [iI_nat k]
    refine z_icmp_ge (pc := 6) 32 (by decide) dX8_firstOf_6 (by omega) (by omega) (by omega) (by omega) (fun h9 => absurd h9 (by omega)) (fun h9 => ?_)
    rw [← iI_nat k]
    refine r_iinc3 (pc := 9) dX8_firstOf_9 rfl ?_
    rw [iI_inc, show ((m : Int) - 1 + 1) = (m : Int) by omega, ← iI_nat m]
    have e1 : iI (((m + 1 : Nat) : Int) - 1) = nI m := by rw [iI_nat]; congr 1; omega
    rw [e1] at ih
    rcases sq_cases hZ m with ⟨j, hj, ej, c1, c2⟩ | ⟨hn, c2⟩
    · subst ej
      have hlp := lz_pos z j
      rw [c2] at ih
      rw [c1]
      refine r_iload2 (pc := 12) dX8_firstOf_12 ?_
      refine r_aload0 (pc := 13) dX8_firstOf_13 ?_
      refine n_bipush (pc := 14) 115 (by decide) dX8_firstOf_14 ?_
      refine r_iload3 (pc := 16) dX8_firstOf_16 ?_
      first | refine n_iadd (pc := 17) dX8_firstOf_17 ?_ | refine z_iadd (pc := 17) dX8_firstOf_17 ?_ | refine r_iadd (pc := 17) dX8_firstOf_17 ?_
      refine n_iald (pc := 18) dX8_firstOf_18 hM (by omega) (by decide) (hI.L hj) ?_
      refine n_if_le (pc := 19) 26 (by decide) dX8_firstOf_19 (by omega) (fun h9 => absurd h9 (by omega)) (fun _ => ?_)
      refine n_iconst_1 (pc := 22) dX8_firstOf_22 ?_
      refine r_goto (pc := 23) 27 (by decide) dX8_firstOf_23 ?_
      rw [show nI 1 = iI ((1 : Nat) : Int) from iI_nat 1]
      first | refine n_iadd (pc := 27) dX8_firstOf_27 ?_ | refine z_iadd (pc := 27) dX8_firstOf_27 ?_ | refine r_iadd (pc := 27) dX8_firstOf_27 ?_
      refine r_istore2 (pc := 28) dX8_firstOf_28 rfl ?_
      refine r_goto (pc := 29) 4 (by decide) dX8_firstOf_29 ?_
      refine G_lv ?_ ih
      rw [show (j : Int) - 1 + ((1 : Nat) : Int) = ((j + 1 : Nat) : Int) - 1 by omega]
    · rw [c2] at ih
      refine r_iload2 (pc := 12) dX8_firstOf_12 ?_
      refine r_aload0 (pc := 13) dX8_firstOf_13 ?_
      refine n_bipush (pc := 14) 115 (by decide) dX8_firstOf_14 ?_
      refine r_iload3 (pc := 16) dX8_firstOf_16 ?_
      first | refine n_iadd (pc := 17) dX8_firstOf_17 ?_ | refine z_iadd (pc := 17) dX8_firstOf_17 ?_ | refine r_iadd (pc := 17) dX8_firstOf_17 ?_
      refine n_iald (pc := 18) dX8_firstOf_18 hM (by omega) (by decide) (hI.Z (by omega) hn) ?_
      refine n_if_le (pc := 19) 26 (by decide) dX8_firstOf_19 (by omega) (fun _ => ?_) (fun h9 => absurd h9 (by omega))
      refine n_iconst_0 (pc := 26) dX8_firstOf_26 ?_
      rw [show nI 0 = iI ((0 : Nat) : Int) from iI_nat 0]
      first | refine n_iadd (pc := 27) dX8_firstOf_27 ?_ | refine z_iadd (pc := 27) dX8_firstOf_27 ?_ | refine r_iadd (pc := 27) dX8_firstOf_27 ?_
      refine r_istore2 (pc := 28) dX8_firstOf_28 rfl ?_
      refine r_goto (pc := 29) 4 (by decide) dX8_firstOf_29 ?_
      refine G_lv ?_ ih
      rw [show (cnt z m : Int) - 1 + ((0 : Nat) : Int) = (cnt z m : Int) - 1 by omega]
end RLEAF
