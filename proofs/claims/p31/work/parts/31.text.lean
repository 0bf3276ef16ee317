/-- a text of n signs f, at t and its row at t + 1 -/
def TXT (M : Mem) (t n : Nat) (f : Nat → Nat) : Prop := n ≤ 120 ∧ (∀ i, i < n → f i < 65536) ∧ ∃ g : Nat → Int32, M t = some (cO 5 [.ref (t + 1), .int (nI n)]) ∧ M (t + 1) = some (cC 120 g) ∧ ∀ i, i < n → g i = nI (f i)
def chT (n : Nat) (f : Nat → Nat) (i : Nat) : Int := if i < n then (f i : Int) else -1
def dgT (n : Nat) (f : Nat → Nat) (i : Nat) : Int := chT n f i - 48
def twT (n : Nat) (f : Nat → Nat) (i : Nat) : Int := 10 * dgT n f i + dgT n f (i + 1)
section TEXT
variable {M : Mem} {t n : Nat} {f : Nat → Nat}
theorem s_isFull (h : TXT M t n f) : Spec mX6_isFull 1 0 0 [.ref t] M (some (.int (bI (decide (120 ≤ n))))) M := by
  obtain ⟨h1, h2, g, h3, h4, h5⟩ := h
  refine Spec_of [some (.ref t)] (by decide) (Nat.le_of_ble_eq_true rfl) rfl ?_
  refine r_aload0 (pc := 0) dX6_isFull_0 ?_
  refine r_getf (pc := 1) fl_X6_15 dX6_isFull_1 h3 rfl ?_
  refine n_bipush (pc := 4) 120 (by decide) dX6_isFull_4 ?_
  refine n_icmp_lt (pc := 6) 13 (by decide) dX6_isFull_6 (by omega) (by omega) (fun h9 => ?_) (fun h9 => ?_)
  · refine n_iconst_0 (pc := 13) dX6_isFull_13 ?_
    exact r_ireturn (pc := 14) false rfl rfl (by decide) dX6_isFull_14 (Nat.zero_le _) (Nat.zero_le _) (Or.inl rfl) rfl (by rw [decide_eq_false (by omega)]; rfl) rfl
  · refine n_iconst_1 (pc := 9) dX6_isFull_9 ?_
    refine r_goto (pc := 10) 14 (by decide) dX6_isFull_10 ?_
    exact r_ireturn (pc := 14) false rfl rfl (by decide) dX6_isFull_14 (Nat.zero_le _) (Nat.zero_le _) (Or.inl rfl) rfl (by rw [decide_eq_true (by omega)]; rfl) rfl
theorem s_signAt (h : TXT M t n f) {i : Nat} (hi : i < 2147483648) : Spec mX6_signAt 1 0 0 [.ref t, .int (nI i)] M (some (.int (iI (chT n f i)))) M := by
  obtain ⟨h1, h2, g, h3, h4, h5⟩ := h
  refine Spec_of [some (.ref t), some (.int (nI i))] (by decide) (Nat.le_of_ble_eq_true rfl) rfl ?_
  refine r_iload1 (pc := 0) dX6_signAt_0 ?_
  refine n_if_lt (pc := 1) 30 (by decide) dX6_signAt_1 (by omega) ?_
  refine r_iload1 (pc := 4) dX6_signAt_4 ?_
  refine r_aload0 (pc := 5) dX6_signAt_5 ?_
  refine r_getf (pc := 6) fl_X6_15 dX6_signAt_6 h3 rfl ?_
  refine n_icmp_ge (pc := 9) 30 (by decide) dX6_signAt_9 (by omega) (by omega) (fun h9 => ?_) (fun h9 => ?_)
  · refine r_iconst_m1 (pc := 30) dX6_signAt_30 ?_
    exact r_ireturn (pc := 31) false rfl rfl rfl dX6_signAt_31 (Nat.zero_le _) (Nat.zero_le _) (Or.inl rfl) rfl (by unfold chT; rw [if_neg (by omega)]; rfl) rfl
  · refine r_iload1 (pc := 12) dX6_signAt_12 ?_
    refine r_aload0 (pc := 13) dX6_signAt_13 ?_
    refine r_getf (pc := 14) fl_X6_9 dX6_signAt_14 h3 rfl ?_
    refine r_alenC (pc := 17) dX6_signAt_17 h4 ?_
    refine n_icmp_ge (pc := 18) 30 (by decide) dX6_signAt_18 (by omega) (by omega) (fun hc18 => absurd hc18 (by omega)) (fun hc18 => ?_)
    refine r_aload0 (pc := 21) dX6_signAt_21 ?_
    refine r_getf (pc := 22) fl_X6_9 dX6_signAt_22 h3 rfl ?_
    refine r_iload1 (pc := 25) dX6_signAt_25 ?_
    refine n_cald (pc := 26) dX6_signAt_26 h4 (by omega) (by decide) (h5 i h9) ?_
    refine r_goto (pc := 27) 31 (by decide) dX6_signAt_27 ?_
    exact r_ireturn (pc := 31) false rfl rfl rfl dX6_signAt_31 (Nat.zero_le _) (Nat.zero_le _) (Or.inl rfl) rfl (by unfold chT; rw [if_pos h9]; exact (iI_nat _).symm) rfl
theorem s_digitAt (h : TXT M t n f) {i : Nat} (hi : i < 2147483648) : Spec mX6_digitAt 2 0 0 [.ref t, .int (nI i)] M (some (.int (iI (dgT n f i)))) M := by
  have h0 := h
  obtain ⟨h1, h2, g, h3, h4, h5⟩ := h0
  refine Spec_of [some (.ref t), some (.int (nI i))] (by decide) (Nat.le_of_ble_eq_true rfl) rfl ?_
  refine r_aload0 (pc := 0) dX6_digitAt_0 ?_
  refine r_iload1 (pc := 1) dX6_digitAt_1 ?_
  refine r_callV1i (pc := 2) lk_X6_19 dX6_digitAt_2 h3 (s_signAt h hi) (by decide) (Nat.le_of_ble_eq_true rfl) ⟨Nat.zero_le _, Nat.zero_le _⟩ ?_
  refine n_bipush (pc := 5) 48 (by decide) dX6_digitAt_5 ?_
  rw [show nI 48 = iI 48 from iI_nat 48]
  first | refine n_isubI (pc := 7) dX6_digitAt_7 ?_ | refine z_isub (pc := 7) dX6_digitAt_7 ?_ | refine r_isub (pc := 7) dX6_digitAt_7 ?_
  exact r_ireturn (pc := 8) false rfl rfl rfl dX6_digitAt_8 (Nat.zero_le _) (Nat.zero_le _) (Or.inl rfl) rfl rfl rfl
theorem s_twoDigitsAt (h : TXT M t n f) {i : Nat} (hi : i + 1 < 2147483648) : Spec mX6_twoDigitsAt 3 0 0 [.ref t, .int (nI i)] M (some (.int (iI (twT n f i)))) M := by
  have h0 := h
  obtain ⟨h1, h2, g, h3, h4, h5⟩ := h0
  refine Spec_of [some (.ref t), some (.int (nI i))] (by decide) (Nat.le_of_ble_eq_true rfl) rfl ?_
  refine n_bipush (pc := 0) 10 (by decide) dX6_twoDigitsAt_0 ?_
  rw [show nI 10 = iI 10 from iI_nat 10]
  refine r_aload0 (pc := 2) dX6_twoDigitsAt_2 ?_
  refine r_iload1 (pc := 3) dX6_twoDigitsAt_3 ?_
  refine r_callV1i (pc := 4) lk_X6_23 dX6_twoDigitsAt_4 h3 (s_digitAt h (by omega)) (by decide) (Nat.le_of_ble_eq_true rfl) ⟨Nat.zero_le _, Nat.zero_le _⟩ ?_
  first | refine n_imul (pc := 7) dX6_twoDigitsAt_7 ?_ | refine z_imul (pc := 7) dX6_twoDigitsAt_7 ?_ | refine r_imul (pc := 7) dX6_twoDigitsAt_7 ?_
  refine r_aload0 (pc := 8) dX6_twoDigitsAt_8 ?_
  refine r_iload1 (pc := 9) dX6_twoDigitsAt_9 ?_
  refine n_iconst_1 (pc := 10) dX6_twoDigitsAt_10 ?_
  first | refine n_iadd (pc := 11) dX6_twoDigitsAt_11 ?_ | refine z_iadd (pc := 11) dX6_twoDigitsAt_11 ?_ | refine r_iadd (pc := 11) dX6_twoDigitsAt_11 ?_
  refine r_callV1i (pc := 12) lk_X6_23 dX6_twoDigitsAt_12 h3 (s_digitAt h hi) (by decide) (Nat.le_of_ble_eq_true rfl) ⟨Nat.zero_le _, Nat.zero_le _⟩ ?_
  first | refine n_iadd (pc := 15) dX6_twoDigitsAt_15 ?_ | refine z_iadd (pc := 15) dX6_twoDigitsAt_15 ?_ | refine r_iadd (pc := 15) dX6_twoDigitsAt_15 ?_
  exact r_ireturn (pc := 16) false rfl rfl rfl dX6_twoDigitsAt_16 (Nat.zero_le _) (Nat.zero_le _) (Or.inl rfl) rfl rfl rfl
end TEXT
