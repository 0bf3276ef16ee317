/-- the row of remembered states at m: the oldest's place, how many -/
def MEM (M : Mem) (m o k : Nat) : Prop := o < 14 ∧ k ≤ 14 ∧ M m = some (cO 1 [.ref (m + 1), .int (nI o), .int (nI k)]) ∧ ∃ f, M (m + 1) = some (cS 14 f) ∧ ∀ i, i < 14 → f i = some (m + 2 + 7 * i)
def mmset (M : Mem) (m o k : Nat) : Mem := mset M m (cO 1 [.ref (m + 1), .int (nI o), .int (nI k)])
theorem MEM.set {M : Mem} {m o k o' k' : Nat} (h : MEM M m o k) (ho : o' < 14) (hk : k' ≤ 14) : MEM (mmset M m o' k') m o' k' := by
  obtain ⟨h1, h2, h3, f, h4, h5⟩ := h
  exact ⟨ho, hk, mset_same, f, by unfold mmset; rw [mset_ne (by omega)]; exact h4, h5⟩
/-- the two slots at m -/
def SLT (M : Mem) (m : Nat) (u : Nat → Bool) : Prop := (∃ f g, M m = some (cO 3 [.ref (m + 1), .ref (m + 2)]) ∧ M (m + 1) = some (cS 2 f) ∧ (∀ i, i < 2 → f i = some (m + 3 + 7 * i)) ∧ M (m + 2) = some (cZ 2 g) ∧ ∀ i, i < 2 → g i = bI (u i))
section MEMS
variable {M : Mem} {m o k : Nat} {u : Nat → Bool}
theorem s_mIsEmpty (h : MEM M m o k) : Spec mX2_isEmpty 1 0 0 [.ref m] M (some (.int (bI (decide (k = 0))))) M := by
  obtain ⟨h1, h2, h3, f, h4, h5⟩ := h
  refine Spec_of [some (.ref m)] (by decide) (Nat.le_of_ble_eq_true rfl) rfl ?_
  refine r_aload0 (pc := 0) dX2_isEmpty_0 ?_
  refine r_getf (pc := 1) fl_X2_18 dX2_isEmpty_1 h3 rfl ?_
  refine n_if_ne (pc := 4) 11 (by decide) dX2_isEmpty_4 (by omega) (fun h9 => ?_) (fun h9 => ?_)
  · refine n_iconst_0 (pc := 11) dX2_isEmpty_11 ?_
    exact r_ireturn (pc := 12) false rfl rfl (by decide) dX2_isEmpty_12 (Nat.zero_le _) (Nat.zero_le _) (Or.inl rfl) rfl (by rw [decide_eq_false h9]; rfl) rfl
  · refine n_iconst_1 (pc := 7) dX2_isEmpty_7 ?_
    refine r_goto (pc := 8) 12 (by decide) dX2_isEmpty_8 ?_
    exact r_ireturn (pc := 12) false rfl rfl (by decide) dX2_isEmpty_12 (Nat.zero_le _) (Nat.zero_le _) (Or.inl rfl) rfl (by rw [decide_eq_true h9]; rfl) rfl
theorem s_forget (h : MEM M m o k) : Spec mX2_forget 1 0 0 [.ref m] M none (mmset M m o 0) := by
  obtain ⟨h1, h2, h3, f, h4, h5⟩ := h
  refine Spec_of [some (.ref m)] (by decide) (Nat.le_of_ble_eq_true rfl) rfl ?_
  refine r_aload0 (pc := 0) dX2_forget_0 ?_
  refine n_iconst_0 (pc := 1) dX2_forget_1 ?_
  refine r_putfI (pc := 2) fl_X2_18 dX2_forget_2 h3 (Nat.le_of_ble_eq_true rfl) ?_
  exact r_return (pc := 5) false rfl rfl dX2_forget_5 (Nat.zero_le _) (Nat.zero_le _) (Or.inl rfl) rfl rfl
theorem s_stateAt (h : MEM M m o k) {i : Nat} (hi : i < 14) : Spec mX2_stateAt 1 0 0 [.ref m, .int (nI i)] M (some (.ref (m + 2 + 7 * i))) M := by
  obtain ⟨h1, h2, h3, f, h4, h5⟩ := h
  refine Spec_of [some (.ref m), some (.int (nI i))] (by decide) (Nat.le_of_ble_eq_true rfl) rfl ?_
  refine r_iload1 (pc := 0) dX2_stateAt_0 ?_
  refine n_if_lt (pc := 1) 22 (by decide) dX2_stateAt_1 (by omega) ?_
  refine r_iload1 (pc := 4) dX2_stateAt_4 ?_
  refine r_aload0 (pc := 5) dX2_stateAt_5 ?_
  refine r_getf (pc := 6) fl_X2_11 dX2_stateAt_6 h3 rfl ?_
  refine r_alenS (pc := 9) dX2_stateAt_9 h4 ?_
  refine n_icmp_ge (pc := 10) 22 (by decide) dX2_stateAt_10 (by omega) (by omega) (fun hc10 => absurd hc10 (by omega)) (fun hc10 => ?_)
  refine r_aload0 (pc := 13) dX2_stateAt_13 ?_
  refine r_getf (pc := 14) fl_X2_11 dX2_stateAt_14 h3 rfl ?_
  refine r_iload1 (pc := 17) dX2_stateAt_17 ?_
  refine n_aald (pc := 18) dX2_stateAt_18 h4 hi (by decide) (h5 i hi) ?_
  refine r_goto (pc := 19) 23 (by decide) dX2_stateAt_19 ?_
  exact r_areturn (pc := 23) false rfl rfl (Or.inl ⟨_, rfl⟩) dX2_stateAt_23 (Nat.zero_le _) (Nat.zero_le _) (Or.inl rfl) rfl rfl rfl
theorem s_takeLast (h : MEM M m o k) (h0 : 0 < k) : Spec mX2_takeLast 2 0 0 [.ref m] M (some (.ref (m + 2 + 7 * ((o + (k - 1)) % 14)))) (mmset M m o (k - 1)) := by
  have hn := h.set (o' := o) (k' := k - 1) h.1 (by have := h.2.1; omega)
  obtain ⟨h1, h2, h3, f, h4, h5⟩ := h
  refine Spec_of [some (.ref m)] (by decide) (Nat.le_of_ble_eq_true rfl) rfl ?_
  refine r_aload0 (pc := 0) dX2_takeLast_0 ?_
  refine r_getf (pc := 1) fl_X2_18 dX2_takeLast_1 h3 rfl ?_
  refine n_if_ne (pc := 4) 9 (by decide) dX2_takeLast_4 (by omega) (fun hc4 => ?_) (fun hc4 => absurd hc4 (by omega))
  refine r_aload0 (pc := 9) dX2_takeLast_9 ?_
  refine r_dup (pc := 10) dX2_takeLast_10 rfl ?_
  refine r_getf (pc := 11) fl_X2_18 dX2_takeLast_11 h3 rfl ?_
  refine n_iconst_1 (pc := 14) dX2_takeLast_14 ?_
  refine n_isub (pc := 15) dX2_takeLast_15 (by omega) ?_
  refine r_putfI (pc := 16) fl_X2_18 dX2_takeLast_16 h3 (Nat.le_of_ble_eq_true rfl) ?_
  refine G_M (M1 := mmset M m o (k - 1)) rfl ?_
  refine r_aload0 (pc := 19) dX2_takeLast_19 ?_
  refine r_aload0 (pc := 20) dX2_takeLast_20 ?_
  refine r_getf (pc := 21) fl_X2_22 dX2_takeLast_21 hn.2.2.1 rfl ?_
  refine r_aload0 (pc := 24) dX2_takeLast_24 ?_
  refine r_getf (pc := 25) fl_X2_18 dX2_takeLast_25 hn.2.2.1 rfl ?_
  first | refine n_iadd (pc := 28) dX2_takeLast_28 ?_ | refine z_iadd (pc := 28) dX2_takeLast_28 ?_ | refine r_iadd (pc := 28) dX2_takeLast_28 ?_
  refine n_bipush (pc := 29) 14 (by decide) dX2_takeLast_29 ?_
  refine n_irem (pc := 31) dX2_takeLast_31 (by omega) (by omega) (by omega) ?_
  refine r_callV1i (pc := 32) lk_X2_25 dX2_takeLast_32 hn.2.2.1 (s_stateAt hn (Nat.mod_lt _ (by decide))) (by decide) (Nat.le_of_ble_eq_true rfl) ⟨Nat.zero_le _, Nat.zero_le _⟩ ?_
  exact r_areturn (pc := 35) false rfl rfl (Or.inl ⟨_, rfl⟩) dX2_takeLast_35 (Nat.zero_le _) (Nat.zero_le _) (Or.inl rfl) rfl rfl rfl
theorem s_isFilled (h : SLT M m u) {i : Nat} (hi : i < 2) : Spec mX4_isFilled 1 0 0 [.ref m, .int (nI i)] M (some (.int (bI (u i)))) M := by
  obtain ⟨f, g, h3, h4, h5, h6, h7⟩ := h
  refine Spec_of [some (.ref m), some (.int (nI i))] (by decide) (Nat.le_of_ble_eq_true rfl) rfl ?_
  refine r_iload1 (pc := 0) dX4_isFilled_0 ?_
  refine n_if_lt (pc := 1) 26 (by decide) dX4_isFilled_1 (by omega) ?_
  refine r_iload1 (pc := 4) dX4_isFilled_4 ?_
  refine r_aload0 (pc := 5) dX4_isFilled_5 ?_
  refine r_getf (pc := 6) fl_X4_17 dX4_isFilled_6 h3 rfl ?_
  refine r_alenZ (pc := 9) dX4_isFilled_9 h6 ?_
  refine n_icmp_ge (pc := 10) 26 (by decide) dX4_isFilled_10 (by omega) (by omega) (fun hc10 => absurd hc10 (by omega)) (fun hc10 => ?_)
  refine r_aload0 (pc := 13) dX4_isFilled_13 ?_
  refine r_getf (pc := 14) fl_X4_17 dX4_isFilled_14 h3 rfl ?_
  refine r_iload1 (pc := 17) dX4_isFilled_17 ?_
  refine n_zald (pc := 18) dX4_isFilled_18 h6 hi (by decide) (h7 i hi) ?_
  refine b_if_eq (pc := 19) 26 (by decide) dX4_isFilled_19 (fun h9 => ?_) (fun h9 => ?_)
  · refine n_iconst_0 (pc := 26) dX4_isFilled_26 ?_
    exact r_ireturn (pc := 27) false rfl rfl (by decide) dX4_isFilled_27 (Nat.zero_le _) (Nat.zero_le _) (Or.inl rfl) rfl (by rw [h9]; rfl) rfl
  · refine n_iconst_1 (pc := 22) dX4_isFilled_22 ?_
    refine r_goto (pc := 23) 27 (by decide) dX4_isFilled_23 ?_
    exact r_ireturn (pc := 27) false rfl rfl (by decide) dX4_isFilled_27 (Nat.zero_le _) (Nat.zero_le _) (Or.inl rfl) rfl (by rw [h9]; rfl) rfl
theorem s_in (h : SLT M m u) {i : Nat} (hi : i < 2) : Spec mX4_in 1 0 0 [.ref m, .int (nI i)] M (some (.ref (m + 3 + 7 * i))) M := by
  obtain ⟨f, g, h3, h4, h5, h6, h7⟩ := h
  refine Spec_of [some (.ref m), some (.int (nI i))] (by decide) (Nat.le_of_ble_eq_true rfl) rfl ?_
  refine r_iload1 (pc := 0) dX4_in_0 ?_
  refine n_if_lt (pc := 1) 22 (by decide) dX4_in_1 (by omega) ?_
  refine r_iload1 (pc := 4) dX4_in_4 ?_
  refine r_aload0 (pc := 5) dX4_in_5 ?_
  refine r_getf (pc := 6) fl_X4_11 dX4_in_6 h3 rfl ?_
  refine r_alenS (pc := 9) dX4_in_9 h4 ?_
  refine n_icmp_ge (pc := 10) 22 (by decide) dX4_in_10 (by omega) (by omega) (fun hc10 => absurd hc10 (by omega)) (fun hc10 => ?_)
  refine r_aload0 (pc := 13) dX4_in_13 ?_
  refine r_getf (pc := 14) fl_X4_11 dX4_in_14 h3 rfl ?_
  refine r_iload1 (pc := 17) dX4_in_17 ?_
  refine n_aald (pc := 18) dX4_in_18 h4 hi (by decide) (h5 i hi) ?_
  refine r_goto (pc := 19) 23 (by decide) dX4_in_19 ?_
  exact r_areturn (pc := 23) false rfl rfl (Or.inl ⟨_, rfl⟩) dX4_in_23 (Nat.zero_le _) (Nat.zero_le _) (Or.inl rfl) rfl rfl rfl
end MEMS
