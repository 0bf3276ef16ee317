section SLOTS
variable {M : Mem} {m a : Nat} {u : Nat → Bool} {T : SS}
theorem nar_bo1 : vp_nar .boolean (nI 1) = bI true := by decide
theorem nar_bo0 : vp_nar .boolean (nI 0) = bI false := by decide
set_option maxRecDepth 20000 in
theorem s_keep (h : SLT M m u) (hT : sAt M a T) (ham : a + 7 ≤ m) (hS : ∀ i, i < 2 → ∃ T', sAt M (m + 3 + 7 * i) T') {i : Nat} (hi : i < 2) : SpecP mX4_keep 2 0 0 [.ref m, .int (nI i), .ref a] M (tP none (fun Mf => ∃ T' g, Mf = mset (sset M (m + 3 + 7 * i) (cpS T T')) (m + 2) (cZ 2 g) ∧ ∀ j, j < 2 → g j = bI (if j = i then true else u j))) := by
  obtain ⟨T', hC⟩ := hS i hi
  have h0 := h
  obtain ⟨f, g, h3, h4, h5, h6, h7⟩ := h0
  have hcp := s_copy (M := M) (a := a) (c := m + 3 + 7 * i) (T := T) (T' := T') (Or.inl (by omega)) hT
  rw [sset_self hC] at hcp
  have h32 : sset M (m + 3 + 7 * i) (cpS T T') m = some (cO 3 [.ref (m + 1), .ref (m + 2)]) := by rw [sset_out (by omega)]; exact h3
  have h62 : sset M (m + 3 + 7 * i) (cpS T T') (m + 2) = some (cZ 2 g) := by rw [sset_out (by omega)]; exact h6
  refine Spec_of [some (.ref m), some (.int (nI i)), some (.ref a)] (by decide) (Nat.le_of_ble_eq_true rfl) rfl ?_
  refine r_iload1 (pc := 0) dX4_keep_0 ?_
  refine n_if_lt (pc := 1) 29 (by decide) dX4_keep_1 (by omega) ?_
  refine r_iload1 (pc := 4) dX4_keep_4 ?_
  refine r_aload0 (pc := 5) dX4_keep_5 ?_
  refine r_getf (pc := 6) fl_X4_17 dX4_keep_6 h3 rfl ?_
  refine r_alenZ (pc := 9) dX4_keep_9 h6 ?_
  refine n_icmp_ge (pc := 10) 29 (by decide) dX4_keep_10 (by omega) (by omega) (fun hc10 => absurd hc10 (by omega)) (fun hc10 => ?_)
  refine r_aload2 (pc := 13) dX4_keep_13 ?_
  refine r_aload0 (pc := 14) dX4_keep_14 ?_
  refine r_iload1 (pc := 15) dX4_keep_15 ?_
  refine r_callV1i (pc := 16) lk_X4_22 dX4_keep_16 h3 (s_in h hi) (by decide) (Nat.le_of_ble_eq_true rfl) ⟨Nat.zero_le _, Nat.zero_le _⟩ ?_
  refine r_callS2v (pc := 19) lk_X4_26 dX4_keep_19 hcp (by decide) (Nat.le_of_ble_eq_true rfl) ⟨Nat.zero_le _, Nat.zero_le _⟩ ?_
  refine r_aload0 (pc := 22) dX4_keep_22 ?_
  refine r_getf (pc := 23) fl_X4_17 dX4_keep_23 h32 rfl ?_
  refine r_iload1 (pc := 26) dX4_keep_26 ?_
  refine n_iconst_1 (pc := 27) dX4_keep_27 ?_
  refine n_zast (pc := 28) dX4_keep_28 h62 hi (by decide) ?_
  rw [nar_bo1]
  refine p_return (pc := 29) false rfl rfl dX4_keep_29 (Nat.zero_le _) (Nat.zero_le _) (Or.inl rfl) ⟨rfl, T', upd g i (bI true), rfl, fun j hj => ?_⟩
  by_cases e : j = i
  · rw [e, upd_same, if_pos rfl]
  · rw [upd_ne e, if_neg e]; exact h7 j hj
theorem s_clear (h : SLT M m u) : SpecP mX4_clear 1 0 0 [.ref m] M (tP none (fun Mf => ∃ g, Mf = mset M (m + 2) (cZ 2 g) ∧ ∀ j, j < 2 → g j = bI false)) := by
  obtain ⟨f, g, h3, h4, h5, h6, h7⟩ := h
  refine Spec_of [some (.ref m), none] (by decide) (Nat.le_of_ble_eq_true rfl) rfl ?_
  refine n_iconst_0 (pc := 0) dX4_clear_0 ?_
  refine r_istore1 (pc := 1) dX4_clear_1 rfl ?_
  refine up_to (N := 2) (k := 0) (fun i => ∀ M1 g, M1 = mset M (m + 2) (cZ 2 g) → (∀ j, j < i → g j = bI false) →
    G mX4_clear 1 (.inl false) 0 0 (tP none (fun Mf => ∃ g, Mf = mset M (m + 2) (cZ 2 g) ∧ ∀ j, j < 2 → g j = bI false)) none 0 0 2 [some (.ref m), some (.int (nI i))] [] M1
    ) (fun M1 g e hg => ?_) (fun i hi ih M1 g e hg => ?_) (Nat.zero_le _) M g (by rw [mset_self h6]) (fun j hj => absurd hj (by omega))
  · refine r_iload1 (pc := 2) dX4_clear_2 ?_
    refine n_iconst_2 (pc := 3) dX4_clear_3 ?_
    refine n_icmp_ge (pc := 4) 20 (by decide) dX4_clear_4 (by omega) (by omega) (fun hc4 => ?_) (fun hc4 => absurd hc4 (by omega))
    exact p_return (pc := 20) false rfl rfl dX4_clear_20 (Nat.zero_le _) (Nat.zero_le _) (Or.inl rfl) ⟨rfl, g, e, hg⟩
  · have h33 : M1 m = some (cO 3 [.ref (m + 1), .ref (m + 2)]) := by rw [e, mset_ne (by omega)]; exact h3
    have h66 : M1 (m + 2) = some (cZ 2 g) := by rw [e]; exact mset_same
    refine r_iload1 (pc := 2) dX4_clear_2 ?_
    refine n_iconst_2 (pc := 3) dX4_clear_3 ?_
    refine n_icmp_ge (pc := 4) 20 (by decide) dX4_clear_4 (by omega) (by omega) (fun hc4 => absurd hc4 (by omega)) (fun hc4 => ?_)
    refine r_aload0 (pc := 7) dX4_clear_7 ?_
    refine r_getf (pc := 8) fl_X4_17 dX4_clear_8 h33 rfl ?_
    refine r_iload1 (pc := 11) dX4_clear_11 ?_
    refine n_iconst_0 (pc := 12) dX4_clear_12 ?_
    refine n_zast (pc := 13) dX4_clear_13 h66 hi (by decide) ?_
    rw [nar_bo0]
    refine n_iinc1 (pc := 14) dX4_clear_14 rfl ?_
    refine r_goto (pc := 17) 2 (by decide) dX4_clear_17 ?_
    refine ih _ (upd g i (bI false)) (by rw [e, mset_mset]) (fun j hj => ?_)
    by_cases e2 : j = i
    · rw [e2, upd_same]
    · rw [upd_ne e2]; exact hg j (by omega)
end SLOTS
