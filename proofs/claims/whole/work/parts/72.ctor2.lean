set_option maxRecDepth 20000 in
theorem s_X2_init {M : Mem} {m : Nat} (h : M m = some (cO 1 df_X2)) : SpecA mX2_init 3 99 5628 (m + 1) [.ref m] M (tP none (fun Mf => MEM Mf m 0 0 ∧ (∀ i, i < 14 → ∃ T, sAt Mf (m + 2 + 7 * i) T) ∧ ∀ j, j < m → Mf j = M j)) := by
  refine SpecA_of [some (.ref m), none] (by decide) (Nat.le_of_ble_eq_true rfl) rfl (fun h500 => ?_)
  refine r_aload0 (pc := 0) dX2_init_0 ?_
  refine r_objInit (pc := 1) (tG 227 (by decide +kernel) (by decide +kernel)) (tG 65 (by decide +kernel) (by decide +kernel)) (tG 66 (by decide +kernel) (by decide +kernel)) dX2_init_1 (by decide) (Nat.le_of_ble_eq_true rfl) ?_
  refine r_aload0 (pc := 4) dX2_init_4 ?_
  refine n_bipush (pc := 5) 14 (by decide) dX2_init_5 ?_
  refine r_newS (pc := 7) (m + 1) (by omega) (by omega) (by decide) (tG 228 (by decide +kernel) (by decide +kernel)) dX2_init_7 (by decide) (by decide) ?_
  refine r_putfRF (pc := 10) fl_X2_11 ⟨_, _, rfl⟩ dX2_init_10 ((mset_ne (by omega)).trans h) (Nat.le_of_ble_eq_true rfl) (fun _ => ⟨rfl, rfl⟩) rfl ?_
  refine n_iconst_0 (pc := 13) dX2_init_13 ?_
  refine r_istore1 (pc := 14) dX2_init_14 rfl ?_
  refine up_to (N := 14) (k := 0) (fun k => ∀ M1 : Mem, (M1 m = some (cO 1 [.ref (m + 1), .int 0, .int 0]) ∧ (∃ f, M1 (m + 1) = some (cS 14 f) ∧ ∀ i, i < k → f i = some (m + 2 + 7 * i)) ∧ (∀ i, i < k → ∃ T, sAt M1 (m + 2 + 7 * i) T) ∧ ∀ j, j < m → M1 j = M j) → G mX2_init 3 (.inl false) 99 5628 (tP none (fun Mf => MEM Mf m 0 0 ∧ (∀ i, i < 14 → ∃ T, sAt Mf (m + 2 + 7 * i) T) ∧ ∀ j, j < m → Mf j = M j)) (some (m + 1)) (1 + 7 * k) (14 + 401 * k) 15 [some (.ref m), some (.int (nI k))] [] M1) (fun M1 hM1 => ?_) (fun k hk ih M1 hM1 => ?_) (Nat.zero_le _) _ ⟨mset_same, ⟨_, (mset_ne (by omega)).trans mset_same, fun i hi => absurd hi (Nat.not_lt_zero _)⟩, fun i hi => absurd hi (Nat.not_lt_zero _), fun j hj => (mset_ne (by omega)).trans (mset_ne (by omega))⟩
  · obtain ⟨m1, ⟨f, m2, m3⟩, m4, m5⟩ := hM1
    refine r_iload1 (pc := 15) dX2_init_15 ?_
    refine n_bipush (pc := 16) 14 (by decide) dX2_init_16 ?_
    refine n_icmp_ge (pc := 18) 40 (by decide) dX2_init_18 (by omega) (by omega) (fun hc18 => ?_) (fun hc18 => absurd hc18 (by omega))
    exact p_return (pc := 40) false rfl rfl dX2_init_40 (by decide) (by decide) (Or.inr rfl) ⟨rfl, ⟨by decide, by decide, m1, f, m2, m3⟩, m4, m5⟩
  · obtain ⟨m1, ⟨f, m2, m3⟩, m4, m5⟩ := hM1
    refine r_iload1 (pc := 15) dX2_init_15 ?_
    refine n_bipush (pc := 16) 14 (by decide) dX2_init_16 ?_
    refine n_icmp_ge (pc := 18) 40 (by decide) dX2_init_18 (by omega) (by omega) (fun hc18 => absurd hc18 (by omega)) (fun hc18 => ?_)
    refine r_aload0 (pc := 21) dX2_init_21 ?_
    refine r_getf (pc := 22) fl_X2_11 dX2_init_22 m1 rfl ?_
    refine r_iload1 (pc := 25) dX2_init_25 ?_
    refine r_new (pc := 26) (ci := 4) (fs := df_X5) (m + 2 + 7 * k) (by omega) (by omega) rfl (tG 228 (by decide +kernel) (by decide +kernel)) (tG 74 (by decide +kernel) (by decide +kernel)) (tG 39 (by decide +kernel) (by decide +kernel)) dv_X5 (fun _ => rfl) dX2_init_26 (by omega) (by omega) ?_
    refine r_dup (pc := 29) dX2_init_29 rfl ?_
    refine r_callA0 (pc := 30) (k' := m + 2 + 7 * k + 1) (Or.inr lk_X2_17) dX2_init_30 (by omega) (by omega) (s_X5_init (M := mset M1 (m + 2 + 7 * k) (cO 4 df_X5)) (a := m + 2 + 7 * k) mset_same) (by decide) (Nat.le_of_ble_eq_true rfl) ⟨by omega, by omega⟩ (fun M9 h9 => ?_)
    subst h9
    refine r_aast (pc := 33) dX2_init_33 ((lset_out (Or.inl (by omega))).trans ((mset_ne (by omega)).trans m2)) (lget0 rfl) (vp_in_nI hk (by decide)) ?_
    rw [nI_clamp (by omega)]
    refine n_iinc1 (pc := 34) dX2_init_34 rfl ?_
    refine r_goto (pc := 37) 15 (by decide) dX2_init_37 ?_
    rw [show 1 + 7 * k + 1 + 6 = 1 + 7 * (k + 1) by omega, show 14 + 401 * k + 9 + 392 = 14 + 401 * (k + 1) by omega]
    refine ih _ ⟨(mset_ne (by omega)).trans ((lset_out (Or.inl (by omega))).trans ((mset_ne (by omega)).trans m1)), ⟨_, mset_same, fun i hi => ?_⟩, fun i hi => ?_, fun j hj => (mset_ne (by omega)).trans ((lset_out (Or.inl (by omega))).trans ((mset_ne (by omega)).trans (m5 j hj)))⟩
    · unfold va_up
      by_cases e : i = k
      · rw [if_pos e, e]
      · rw [if_neg e]; exact m3 i (by omega)
    · by_cases e : i = k
      · subst e
        exact ⟨S00, lset_sAt.ext (fun j p q => mset_ne (by omega))⟩
      · obtain ⟨T, t1⟩ := m4 i (by omega)
        exact ⟨T, t1.ext (fun j p q => (mset_ne (by omega)).trans ((lset_out (Or.inl (by omega))).trans (mset_ne (by omega))))⟩
set_option maxRecDepth 20000 in
theorem s_X4_init {M : Mem} {m : Nat} (h : M m = some (cO 3 df_X4)) : SpecA mX4_init 3 16 806 (m + 1) [.ref m] M (tP none (fun Mf => SLT Mf m (fun _ => false) ∧ (∀ i, i < 2 → ∃ T, sAt Mf (m + 3 + 7 * i) T) ∧ ∀ j, j < m → Mf j = M j)) := by
  refine SpecA_of [some (.ref m), none] (by decide) (Nat.le_of_ble_eq_true rfl) rfl (fun h500 => ?_)
  refine r_aload0 (pc := 0) dX4_init_0 ?_
  refine r_objInit (pc := 1) (tG 247 (by decide +kernel) (by decide +kernel)) (tG 65 (by decide +kernel) (by decide +kernel)) (tG 66 (by decide +kernel) (by decide +kernel)) dX4_init_1 (by decide) (Nat.le_of_ble_eq_true rfl) ?_
  refine r_aload0 (pc := 4) dX4_init_4 ?_
  refine n_iconst_2 (pc := 5) dX4_init_5 ?_
  refine r_newS (pc := 6) (m + 1) (by omega) (by omega) (by decide) (tG 248 (by decide +kernel) (by decide +kernel)) dX4_init_6 (by decide) (by decide) ?_
  refine r_putfRF (pc := 9) fl_X4_11 ⟨_, _, rfl⟩ dX4_init_9 ((mset_ne (by omega)).trans h) (Nat.le_of_ble_eq_true rfl) (fun _ => ⟨rfl, rfl⟩) rfl ?_
  refine r_aload0 (pc := 12) dX4_init_12 ?_
  refine n_iconst_2 (pc := 13) dX4_init_13 ?_
  refine r_newZ (pc := 14) (m + 2) (by omega) (by omega) (by decide) dX4_init_14 (by decide) (by decide) ?_
  refine r_putfRF (pc := 16) fl_X4_17 ⟨_, _, rfl⟩ dX4_init_16 ((mset_ne (by omega)).trans mset_same) (Nat.le_of_ble_eq_true rfl) (fun _ => ⟨rfl, rfl⟩) rfl ?_
  refine n_iconst_0 (pc := 19) dX4_init_19 ?_
  refine r_istore1 (pc := 20) dX4_init_20 rfl ?_
  refine up_to (N := 2) (k := 0) (fun k => ∀ M1 : Mem, (M1 m = some (cO 3 [.ref (m + 1), .ref (m + 2)]) ∧ (∃ f, M1 (m + 1) = some (cS 2 f) ∧ ∀ i, i < k → f i = some (m + 3 + 7 * i)) ∧ M1 (m + 2) = some (cZ 2 (fun _ => 0)) ∧ (∀ i, i < k → ∃ T, sAt M1 (m + 3 + 7 * i) T) ∧ ∀ j, j < m → M1 j = M j) → G mX4_init 3 (.inl false) 16 806 (tP none (fun Mf => SLT Mf m (fun _ => false) ∧ (∀ i, i < 2 → ∃ T, sAt Mf (m + 3 + 7 * i) T) ∧ ∀ j, j < m → Mf j = M j)) (some (m + 1)) (2 + 7 * k) (4 + 401 * k) 21 [some (.ref m), some (.int (nI k))] [] M1) (fun M1 hM1 => ?_) (fun k hk ih M1 hM1 => ?_) (Nat.zero_le _) _ ⟨mset_same, ⟨_, (mset_ne (by omega)).trans ((mset_ne (by omega)).trans ((mset_ne (by omega)).trans mset_same)), fun i hi => absurd hi (Nat.not_lt_zero _)⟩, (mset_ne (by omega)).trans mset_same, fun i hi => absurd hi (Nat.not_lt_zero _), fun j hj => (mset_ne (by omega)).trans ((mset_ne (by omega)).trans ((mset_ne (by omega)).trans (mset_ne (by omega))))⟩
  · obtain ⟨m1, ⟨f, m2, m3⟩, m6, m4, m5⟩ := hM1
    refine r_iload1 (pc := 21) dX4_init_21 ?_
    refine n_iconst_2 (pc := 22) dX4_init_22 ?_
    refine n_icmp_ge (pc := 23) 45 (by decide) dX4_init_23 (by omega) (by omega) (fun hc23 => ?_) (fun hc23 => absurd hc23 (by omega))
    exact p_return (pc := 45) false rfl rfl dX4_init_45 (by decide) (by decide) (Or.inr rfl) ⟨rfl, ⟨f, _, m1, m2, m3, m6, fun i hi => rfl⟩, m4, m5⟩
  · obtain ⟨m1, ⟨f, m2, m3⟩, m6, m4, m5⟩ := hM1
    refine r_iload1 (pc := 21) dX4_init_21 ?_
    refine n_iconst_2 (pc := 22) dX4_init_22 ?_
    refine n_icmp_ge (pc := 23) 45 (by decide) dX4_init_23 (by omega) (by omega) (fun hc23 => absurd hc23 (by omega)) (fun hc23 => ?_)
    refine r_aload0 (pc := 26) dX4_init_26 ?_
    refine r_getf (pc := 27) fl_X4_11 dX4_init_27 m1 rfl ?_
    refine r_iload1 (pc := 30) dX4_init_30 ?_
    refine r_new (pc := 31) (ci := 4) (fs := df_X5) (m + 3 + 7 * k) (by omega) (by omega) rfl (tG 248 (by decide +kernel) (by decide +kernel)) (tG 74 (by decide +kernel) (by decide +kernel)) (tG 39 (by decide +kernel) (by decide +kernel)) dv_X5 (fun _ => rfl) dX4_init_31 (by omega) (by omega) ?_
    refine r_dup (pc := 34) dX4_init_34 rfl ?_
    refine r_callA0 (pc := 35) (k' := m + 3 + 7 * k + 1) (Or.inr lk_X4_21) dX4_init_35 (by omega) (by omega) (s_X5_init (M := mset M1 (m + 3 + 7 * k) (cO 4 df_X5)) (a := m + 3 + 7 * k) mset_same) (by decide) (Nat.le_of_ble_eq_true rfl) ⟨by omega, by omega⟩ (fun M9 h9 => ?_)
    subst h9
    refine r_aast (pc := 38) dX4_init_38 ((lset_out (Or.inl (by omega))).trans ((mset_ne (by omega)).trans m2)) (lget0 rfl) (vp_in_nI hk (by decide)) ?_
    rw [nI_clamp (by omega)]
    refine n_iinc1 (pc := 39) dX4_init_39 rfl ?_
    refine r_goto (pc := 42) 21 (by decide) dX4_init_42 ?_
    rw [show 2 + 7 * k + 1 + 6 = 2 + 7 * (k + 1) by omega, show 4 + 401 * k + 9 + 392 = 4 + 401 * (k + 1) by omega]
    refine ih _ ⟨(mset_ne (by omega)).trans ((lset_out (Or.inl (by omega))).trans ((mset_ne (by omega)).trans m1)), ⟨_, mset_same, fun i hi => ?_⟩, (mset_ne (by omega)).trans ((lset_out (Or.inl (by omega))).trans ((mset_ne (by omega)).trans m6)), fun i hi => ?_, fun j hj => (mset_ne (by omega)).trans ((lset_out (Or.inl (by omega))).trans ((mset_ne (by omega)).trans (m5 j hj)))⟩
    · unfold va_up
      by_cases e : i = k
      · rw [if_pos e, e]
      · rw [if_neg e]; exact m3 i (by omega)
    · by_cases e : i = k
      · subst e
        exact ⟨S00, lset_sAt.ext (fun j p q => mset_ne (by omega))⟩
      · obtain ⟨T, t1⟩ := m4 i (by omega)
        exact ⟨T, t1.ext (fun j p q => (mset_ne (by omega)).trans ((lset_out (Or.inl (by omega))).trans (mset_ne (by omega))))⟩
/-- the world at the start -/
def w00 : WS := (startZ 3 1, (0, fun _ => startZ 3 1), (fun _ => none), 0, fun _ => 0)
theorem w00_ok : WOK w00 := ⟨⟨startZ_ok (by decide) (by decide) (by decide) (by decide), startZ_tok _ _⟩, ⟨Nat.zero_le _, fun i hi => absurd hi (Nat.not_lt_zero _)⟩, fun s y hy => (by cases hy), Nat.zero_le _, fun i hi => absurd hi (Nat.not_lt_zero _)⟩
set_option maxRecDepth 20000 in
theorem s_X7_init {M : Mem} (h : M 0 = some (cO 6 df_X7)) : SpecA mX7_init 4 163 8973 1 [.ref 0] M (tP none (fun Mf => FACE Mf w00)) := by
  refine SpecA_of [some (.ref 0)] (by decide) (Nat.le_of_ble_eq_true rfl) rfl (fun h500 => ?_)
  refine r_aload0 (pc := 0) dX7_init_0 ?_
  refine r_objInit (pc := 1) (tG 64 (by decide +kernel) (by decide +kernel)) (tG 65 (by decide +kernel) (by decide +kernel)) (tG 66 (by decide +kernel) (by decide +kernel)) dX7_init_1 (by decide) (Nat.le_of_ble_eq_true rfl) ?_
  refine r_aload0 (pc := 4) dX7_init_4 ?_
  refine r_new (pc := 5) (ci := 0) (fs := df_X0) 1 (by decide) (by decide) rfl (tG 67 (by decide +kernel) (by decide +kernel)) (tG 68 (by decide +kernel) (by decide +kernel)) (tG 38 (by decide +kernel) (by decide +kernel)) dv_X0 (fun _ => rfl) dX7_init_5 (by decide) (by decide) ?_
  refine r_dup (pc := 8) dX7_init_8 rfl ?_
  refine r_callA0 (pc := 9) (k' := 2) (Or.inr lk_X7_9) dX7_init_9 (by decide) (by decide) (s_X0_init (M := mset M 1 (cO 0 df_X0)) (a := 1) mset_same) (by decide) (Nat.le_of_ble_eq_true rfl) (by decide) (fun M1 h1 => ?_)
  have a1 : ∀ j, j < 1 → M1 j = M j := fun j hj => by rw [h1, bset_out (by omega), mset_ne (by omega)]
  have f1 : bset M1 1 B00 = M1 := by rw [h1, bset_bset]
  clear h1
  refine r_putfRF (pc := 12) fl_X7_10 ⟨_, _, rfl⟩ dX7_init_12 ((a1 0 (by decide)).trans h) (Nat.le_of_ble_eq_true rfl) (fun _ => ⟨rfl, rfl⟩) rfl ?_
  obtain ⟨N1, e1⟩ : ∃ N, N = mset M1 0 (cO 6 [.ref 1, .null, .null, .null, .null]) := ⟨_, rfl⟩
  refine G_M (M1 := N1) e1.symm ?_
  have c1 : ∀ j, j ≠ 0 → N1 j = M1 j := fun j hj => by rw [e1]; exact mset_ne hj
  have h : N1 0 = some (cO 6 [.ref 1, .null, .null, .null, .null]) := by rw [e1]; exact mset_same
  clear e1
  have b1 : ∀ j, 1 ≤ j → j < 1 → N1 j = M j := fun j p q => (c1 j (by omega)).trans (a1 j q)
  have f1 : bset N1 1 B00 = N1 := bset_ext (fun j p q => c1 j (by omega)) f1
  refine r_aload0 (pc := 15) dX7_init_15 ?_
  refine r_new (pc := 16) (ci := 0) (fs := df_X0) 23 (by decide) (by decide) rfl (tG 67 (by decide +kernel) (by decide +kernel)) (tG 68 (by decide +kernel) (by decide +kernel)) (tG 38 (by decide +kernel) (by decide +kernel)) dv_X0 (fun _ => rfl) dX7_init_16 (by decide) (by decide) ?_
  refine r_dup (pc := 19) dX7_init_19 rfl ?_
  refine r_callA0 (pc := 20) (k' := 24) (Or.inr lk_X7_9) dX7_init_20 (by decide) (by decide) (s_X0_init (M := mset N1 23 (cO 0 df_X0)) (a := 23) mset_same) (by decide) (Nat.le_of_ble_eq_true rfl) (by decide) (fun M2 h2 => ?_)
  have a2 : ∀ j, j < 23 → M2 j = N1 j := fun j hj => by rw [h2, bset_out (by omega), mset_ne (by omega)]
  have f2 : bset M2 23 B00 = M2 := by rw [h2, bset_bset]
  clear h2
  refine r_putfRF (pc := 23) fl_X7_16 ⟨_, _, rfl⟩ dX7_init_23 ((a2 0 (by decide)).trans h) (Nat.le_of_ble_eq_true rfl) (fun _ => ⟨rfl, rfl⟩) rfl ?_
  obtain ⟨N2, e2⟩ : ∃ N, N = mset M2 0 (cO 6 [.ref 1, .ref 23, .null, .null, .null]) := ⟨_, rfl⟩
  refine G_M (M1 := N2) e2.symm ?_
  have c2 : ∀ j, j ≠ 0 → N2 j = M2 j := fun j hj => by rw [e2]; exact mset_ne hj
  have h : N2 0 = some (cO 6 [.ref 1, .ref 23, .null, .null, .null]) := by rw [e2]; exact mset_same
  clear e2
  have b2 : ∀ j, 1 ≤ j → j < 23 → N2 j = N1 j := fun j p q => (c2 j (by omega)).trans (a2 j q)
  have f1 : bset N2 1 B00 = N2 := bset_ext (fun j p q => b2 j (by omega) (by omega)) f1
  have f2 : bset N2 23 B00 = N2 := bset_ext (fun j p q => c2 j (by omega)) f2
  refine r_aload0 (pc := 26) dX7_init_26 ?_
  refine r_new (pc := 27) (ci := 1) (fs := df_X2) 45 (by decide) (by decide) rfl (tG 222 (by decide +kernel) (by decide +kernel)) (tG 223 (by decide +kernel) (by decide +kernel)) (tG 41 (by decide +kernel) (by decide +kernel)) dv_X2 (fun _ => rfl) dX7_init_27 (by decide) (by decide) ?_
  refine r_dup (pc := 30) dX7_init_30 rfl ?_
  refine r_callA0 (pc := 31) (k' := 46) (Or.inl lk_X7_21) dX7_init_31 (by decide) (by decide) (s_X2_init (M := mset N2 45 (cO 1 df_X2)) (m := 45) mset_same) (by decide) (Nat.le_of_ble_eq_true rfl) (by decide) (fun M3 h3 => ?_)
  obtain ⟨f3, g3, h3⟩ := h3
  have a3 : ∀ j, j < 45 → M3 j = N2 j := fun j hj => (h3 j hj).trans (mset_ne (by omega))
  clear h3
  refine r_putfRF (pc := 34) fl_X7_22 ⟨_, _, rfl⟩ dX7_init_34 ((a3 0 (by decide)).trans h) (Nat.le_of_ble_eq_true rfl) (fun _ => ⟨rfl, rfl⟩) rfl ?_
  obtain ⟨N3, e3⟩ : ∃ N, N = mset M3 0 (cO 6 [.ref 1, .ref 23, .ref 45, .null, .null]) := ⟨_, rfl⟩
  refine G_M (M1 := N3) e3.symm ?_
  have c3 : ∀ j, j ≠ 0 → N3 j = M3 j := fun j hj => by rw [e3]; exact mset_ne hj
  have h : N3 0 = some (cO 6 [.ref 1, .ref 23, .ref 45, .null, .null]) := by rw [e3]; exact mset_same
  clear e3
  have b3 : ∀ j, 1 ≤ j → j < 45 → N3 j = N2 j := fun j p q => (c3 j (by omega)).trans (a3 j q)
  have f1 : bset N3 1 B00 = N3 := bset_ext (fun j p q => b3 j (by omega) (by omega)) f1
  have f2 : bset N3 23 B00 = N3 := bset_ext (fun j p q => b3 j (by omega) (by omega)) f2
  have f3 : MEM N3 45 0 0 := f3.ext (fun j p q => c3 j (by omega))
  have g3 : ∀ i, i < 14 → ∃ T, sAt N3 (45 + 2 + 7 * i) T := fun i hi => by
    obtain ⟨T, t1⟩ := g3 i hi
    exact ⟨T, t1.ext (fun j p q => c3 j (by omega))⟩
  refine r_aload0 (pc := 37) dX7_init_37 ?_
  refine r_new (pc := 38) (ci := 3) (fs := df_X4) 145 (by decide) (by decide) rfl (tG 242 (by decide +kernel) (by decide +kernel)) (tG 243 (by decide +kernel) (by decide +kernel)) (tG 42 (by decide +kernel) (by decide +kernel)) dv_X4 (fun _ => rfl) dX7_init_38 (by decide) (by decide) ?_
  refine r_dup (pc := 41) dX7_init_41 rfl ?_
  refine r_callA0 (pc := 42) (k' := 146) (Or.inl lk_X7_28) dX7_init_42 (by decide) (by decide) (s_X4_init (M := mset N3 145 (cO 3 df_X4)) (m := 145) mset_same) (by decide) (Nat.le_of_ble_eq_true rfl) (by decide) (fun M4 h4 => ?_)
  obtain ⟨f4, g4, h4⟩ := h4
  have a4 : ∀ j, j < 145 → M4 j = N3 j := fun j hj => (h4 j hj).trans (mset_ne (by omega))
  clear h4
  refine r_putfRF (pc := 45) fl_X7_29 ⟨_, _, rfl⟩ dX7_init_45 ((a4 0 (by decide)).trans h) (Nat.le_of_ble_eq_true rfl) (fun _ => ⟨rfl, rfl⟩) rfl ?_
  obtain ⟨N4, e4⟩ : ∃ N, N = mset M4 0 (cO 6 [.ref 1, .ref 23, .ref 45, .ref 145, .null]) := ⟨_, rfl⟩
  refine G_M (M1 := N4) e4.symm ?_
  have c4 : ∀ j, j ≠ 0 → N4 j = M4 j := fun j hj => by rw [e4]; exact mset_ne hj
  have h : N4 0 = some (cO 6 [.ref 1, .ref 23, .ref 45, .ref 145, .null]) := by rw [e4]; exact mset_same
  clear e4
  have b4 : ∀ j, 1 ≤ j → j < 145 → N4 j = N3 j := fun j p q => (c4 j (by omega)).trans (a4 j q)
  have f1 : bset N4 1 B00 = N4 := bset_ext (fun j p q => b4 j (by omega) (by omega)) f1
  have f2 : bset N4 23 B00 = N4 := bset_ext (fun j p q => b4 j (by omega) (by omega)) f2
  have f3 : MEM N4 45 0 0 := f3.ext (fun j p q => b4 j (by omega) (by omega))
  have g3 : ∀ i, i < 14 → ∃ T, sAt N4 (45 + 2 + 7 * i) T := fun i hi => by
    obtain ⟨T, t1⟩ := g3 i hi
    exact ⟨T, t1.ext (fun j p q => b4 j (by omega) (by omega))⟩
  have f4 : SLT N4 145 (fun _ => false) := f4.ext (fun j p q => c4 j (by omega))
  have g4 : ∀ i, i < 2 → ∃ T, sAt N4 (145 + 3 + 7 * i) T := fun i hi => by
    obtain ⟨T, t1⟩ := g4 i hi
    exact ⟨T, t1.ext (fun j p q => c4 j (by omega))⟩
  refine r_aload0 (pc := 48) dX7_init_48 ?_
  refine r_new (pc := 49) (ci := 5) (fs := df_X6) 162 (by decide) (by decide) rfl (tG 258 (by decide +kernel) (by decide +kernel)) (tG 259 (by decide +kernel) (by decide +kernel)) (tG 43 (by decide +kernel) (by decide +kernel)) dv_X6 (fun _ => rfl) dX7_init_49 (by decide) (by decide) ?_
  refine r_dup (pc := 52) dX7_init_52 rfl ?_
  refine r_callA0 (pc := 53) (k' := 163) (Or.inr lk_X7_35) dX7_init_53 (by decide) (by decide) (s_X6_init (M := mset N4 162 (cO 5 df_X6)) (a := 162) (f := fun _ => 0) mset_same) (by decide) (Nat.le_of_ble_eq_true rfl) (by decide) (fun M5 h5 => ?_)
  obtain ⟨f5, h5⟩ := h5
  have a5 : ∀ j, j < 162 → M5 j = N4 j := fun j hj => (h5 j hj).trans (mset_ne (by omega))
  clear h5
  refine r_putfRF (pc := 56) fl_X7_36 ⟨_, _, rfl⟩ dX7_init_56 ((a5 0 (by decide)).trans h) (Nat.le_of_ble_eq_true rfl) (fun _ => ⟨rfl, rfl⟩) rfl ?_
  obtain ⟨N5, e5⟩ : ∃ N, N = mset M5 0 (cO 6 [.ref 1, .ref 23, .ref 45, .ref 145, .ref 162]) := ⟨_, rfl⟩
  refine G_M (M1 := N5) e5.symm ?_
  have c5 : ∀ j, j ≠ 0 → N5 j = M5 j := fun j hj => by rw [e5]; exact mset_ne hj
  have h : N5 0 = some (cO 6 [.ref 1, .ref 23, .ref 45, .ref 145, .ref 162]) := by rw [e5]; exact mset_same
  clear e5
  have b5 : ∀ j, 1 ≤ j → j < 162 → N5 j = N4 j := fun j p q => (c5 j (by omega)).trans (a5 j q)
  have f1 : bset N5 1 B00 = N5 := bset_ext (fun j p q => b5 j (by omega) (by omega)) f1
  have f2 : bset N5 23 B00 = N5 := bset_ext (fun j p q => b5 j (by omega) (by omega)) f2
  have f3 : MEM N5 45 0 0 := f3.ext (fun j p q => b5 j (by omega) (by omega))
  have g3 : ∀ i, i < 14 → ∃ T, sAt N5 (45 + 2 + 7 * i) T := fun i hi => by
    obtain ⟨T, t1⟩ := g3 i hi
    exact ⟨T, t1.ext (fun j p q => b5 j (by omega) (by omega))⟩
  have f4 : SLT N5 145 (fun _ => false) := f4.ext (fun j p q => b5 j (by omega) (by omega))
  have g4 : ∀ i, i < 2 → ∃ T, sAt N5 (145 + 3 + 7 * i) T := fun i hi => by
    obtain ⟨T, t1⟩ := g4 i hi
    exact ⟨T, t1.ext (fun j p q => b5 j (by omega) (by omega))⟩
  have f5 : TXT N5 162 0 (fun _ => 0) := f5.ext (fun j p q => c5 j (by omega))
  clear a1 a2 a3 a4 a5 b1 b2 b3 b4 b5 c1 c2 c3 c4 c5
  have hst := s_start (M := N5) (b := 1) (S := B00) (n := 3) (m := 1) (by decide) (by decide) (by decide) (by decide)
  rw [f1] at hst
  have hb1 : N5 1 = some (cO 0 [.ref (1 + 1), .int 0, .int 0, .int 0, .int 0, .ref (1 + 8), .ref (1 + 9), .ref (1 + 10), .ref (1 + 11), .ref (1 + 12), .ref (1 + 13), .ref (1 + 20), .ref (1 + 21)]) := by rw [← f1]; exact bget0 rfl
  refine r_aload0 (pc := 59) dX7_init_59 ?_
  refine r_getf (pc := 60) fl_X7_10 dX7_init_60 h rfl ?_
  refine n_iconst_3 (pc := 63) dX7_init_63 ?_
  refine n_iconst_1 (pc := 64) dX7_init_64 ?_
  refine r_callV2w (pc := 65) lk_X7_40 dX7_init_65 hb1 hst  (by decide) (Nat.le_of_ble_eq_true rfl) ⟨by decide, by decide⟩ (fun M9 h9 => ?_)
  obtain ⟨S2, hI2, rfl⟩ := h9
  have ho : ∀ j, j < 1 ∨ 23 ≤ j → bset N5 1 S2 j = N5 j := fun j hj => bset_out (by omega)
  exact p_return (pc := 68) false rfl rfl dX7_init_68 (by decide) (by decide) (Or.inr rfl) ⟨rfl, (ho 0 (by decide)).trans h, ⟨S2, bset_bset, hI2⟩, ⟨B00, bset_ext (fun j p q => ho j (by omega)) f2⟩, ⟨0, f3.ext (fun j p q => ho j (by omega)), fun i hi => by
    obtain ⟨T, t1⟩ := g3 i hi
    exact ⟨T, t1.ext (fun j p q => ho j (by omega)), fun j hj => absurd hj (Nat.not_lt_zero _)⟩⟩, ⟨f4.ext (fun j p q => ho j (by omega)), fun i hi => by
    obtain ⟨T, t1⟩ := g4 i hi
    exact ⟨T, t1.ext (fun j p q => ho j (by omega)), fun y hy => by cases hy⟩⟩, f5.ext (fun j p q => ho j (by omega))⟩
set_option maxRecDepth 20000 in
theorem s_X8_init {M : Mem} {a : Nat} (h : M a = some (cO 7 df_X8)) : SpecA mX8_init 4 7 10312 (a + 1) [.ref a] M (tP none (fun Mf => ∃ S, MODEL S w00 ∧ Mf = kset M a S)) := by
  refine SpecA_of [some (.ref a)] (by decide) (Nat.le_of_ble_eq_true rfl) rfl (fun h500 => ?_)
  refine G_M (lself h) ?_
  refine r_aload0 (pc := 0) dX8_init_0 ?_
  refine r_objInit (pc := 1) (tG 1048 (by decide +kernel) (by decide +kernel)) (tG 65 (by decide +kernel) (by decide +kernel)) (tG 66 (by decide +kernel) (by decide +kernel)) dX8_init_1 (by decide) (Nat.le_of_ble_eq_true rfl) ?_
  refine r_aload0 (pc := 4) dX8_init_4 ?_
  refine n_bipush (pc := 5) 120 (by decide) dX8_init_5 ?_
  refine r_newI (pc := 7) (a + 1) (by omega) (by omega) (by decide) dX8_init_7 (by decide) (by decide) ?_
  refine G_M (lset_push [cO 7 df_X8, cI 120 (fun _ => 0)] (n := 1) rfl rfl) ?_
  refine r_putfRF (pc := 9) fl_X8_7 ⟨_, _, rfl⟩ dX8_init_9 (lget0 rfl) (Nat.le_of_ble_eq_true rfl) (fun _ => ⟨rfl, rfl⟩) rfl ?_
  refine G_M (lset_set0 [cO 7 [.int 0, .ref (a + 1), .int 0, .null, .null, .null, .int 0, .null, .null, .null, .int 0, .int 0, .int 0, .int 0, .int 0], cI 120 (fun _ => 0)] (Nat.le_of_ble_eq_true rfl) rfl) ?_
  refine r_aload0 (pc := 12) dX8_init_12 ?_
  refine n_sipush (pc := 13) 563 (by decide) dX8_init_13 ?_
  refine r_newI (pc := 16) (a + 2) (by omega) (by omega) (by decide) dX8_init_16 (by decide) (by decide) ?_
  refine G_M (lset_push [cO 7 [.int 0, .ref (a + 1), .int 0, .null, .null, .null, .int 0, .null, .null, .null, .int 0, .int 0, .int 0, .int 0, .int 0], cI 120 (fun _ => 0), cI 563 (fun _ => 0)] (n := 2) rfl rfl) ?_
  refine r_putfRF (pc := 18) fl_X8_13 ⟨_, _, rfl⟩ dX8_init_18 (lget0 rfl) (Nat.le_of_ble_eq_true rfl) (fun _ => ⟨rfl, rfl⟩) rfl ?_
  refine G_M (lset_set0 [cO 7 [.int 0, .ref (a + 1), .int 0, .ref (a + 2), .null, .null, .int 0, .null, .null, .null, .int 0, .int 0, .int 0, .int 0, .int 0], cI 120 (fun _ => 0), cI 563 (fun _ => 0)] (Nat.le_of_ble_eq_true rfl) rfl) ?_
  refine r_aload0 (pc := 21) dX8_init_21 ?_
  refine n_sipush (pc := 22) 563 (by decide) dX8_init_22 ?_
  refine r_newI (pc := 25) (a + 3) (by omega) (by omega) (by decide) dX8_init_25 (by decide) (by decide) ?_
  refine G_M (lset_push [cO 7 [.int 0, .ref (a + 1), .int 0, .ref (a + 2), .null, .null, .int 0, .null, .null, .null, .int 0, .int 0, .int 0, .int 0, .int 0], cI 120 (fun _ => 0), cI 563 (fun _ => 0), cI 563 (fun _ => 0)] (n := 3) rfl rfl) ?_
  refine r_putfRF (pc := 27) fl_X8_16 ⟨_, _, rfl⟩ dX8_init_27 (lget0 rfl) (Nat.le_of_ble_eq_true rfl) (fun _ => ⟨rfl, rfl⟩) rfl ?_
  refine G_M (lset_set0 [cO 7 [.int 0, .ref (a + 1), .int 0, .ref (a + 2), .ref (a + 3), .null, .int 0, .null, .null, .null, .int 0, .int 0, .int 0, .int 0, .int 0], cI 120 (fun _ => 0), cI 563 (fun _ => 0), cI 563 (fun _ => 0)] (Nat.le_of_ble_eq_true rfl) rfl) ?_
  refine r_aload0 (pc := 30) dX8_init_30 ?_
  refine n_sipush (pc := 31) 7882 (by decide) dX8_init_31 ?_
  refine r_newI (pc := 34) (a + 4) (by omega) (by omega) (by decide) dX8_init_34 (by decide) (by decide) ?_
  refine G_M (lset_push [cO 7 [.int 0, .ref (a + 1), .int 0, .ref (a + 2), .ref (a + 3), .null, .int 0, .null, .null, .null, .int 0, .int 0, .int 0, .int 0, .int 0], cI 120 (fun _ => 0), cI 563 (fun _ => 0), cI 563 (fun _ => 0), cI 7882 (fun _ => 0)] (n := 4) rfl rfl) ?_
  refine r_putfRF (pc := 36) fl_X8_19 ⟨_, _, rfl⟩ dX8_init_36 (lget0 rfl) (Nat.le_of_ble_eq_true rfl) (fun _ => ⟨rfl, rfl⟩) rfl ?_
  refine G_M (lset_set0 [cO 7 [.int 0, .ref (a + 1), .int 0, .ref (a + 2), .ref (a + 3), .ref (a + 4), .int 0, .null, .null, .null, .int 0, .int 0, .int 0, .int 0, .int 0], cI 120 (fun _ => 0), cI 563 (fun _ => 0), cI 563 (fun _ => 0), cI 7882 (fun _ => 0)] (Nat.le_of_ble_eq_true rfl) rfl) ?_
  refine r_aload0 (pc := 39) dX8_init_39 ?_
  refine n_sipush (pc := 40) 1126 (by decide) dX8_init_40 ?_
  refine r_newI (pc := 43) (a + 5) (by omega) (by omega) (by decide) dX8_init_43 (by decide) (by decide) ?_
  refine G_M (lset_push [cO 7 [.int 0, .ref (a + 1), .int 0, .ref (a + 2), .ref (a + 3), .ref (a + 4), .int 0, .null, .null, .null, .int 0, .int 0, .int 0, .int 0, .int 0], cI 120 (fun _ => 0), cI 563 (fun _ => 0), cI 563 (fun _ => 0), cI 7882 (fun _ => 0), cI 1126 (fun _ => 0)] (n := 5) rfl rfl) ?_
  refine r_putfRF (pc := 45) fl_X8_22 ⟨_, _, rfl⟩ dX8_init_45 (lget0 rfl) (Nat.le_of_ble_eq_true rfl) (fun _ => ⟨rfl, rfl⟩) rfl ?_
  refine G_M (lset_set0 [cO 7 [.int 0, .ref (a + 1), .int 0, .ref (a + 2), .ref (a + 3), .ref (a + 4), .int 0, .ref (a + 5), .null, .null, .int 0, .int 0, .int 0, .int 0, .int 0], cI 120 (fun _ => 0), cI 563 (fun _ => 0), cI 563 (fun _ => 0), cI 7882 (fun _ => 0), cI 1126 (fun _ => 0)] (Nat.le_of_ble_eq_true rfl) rfl) ?_
  refine r_aload0 (pc := 48) dX8_init_48 ?_
  refine n_iconst_2 (pc := 49) dX8_init_49 ?_
  refine r_newZ (pc := 50) (a + 6) (by omega) (by omega) (by decide) dX8_init_50 (by decide) (by decide) ?_
  refine G_M (lset_push [cO 7 [.int 0, .ref (a + 1), .int 0, .ref (a + 2), .ref (a + 3), .ref (a + 4), .int 0, .ref (a + 5), .null, .null, .int 0, .int 0, .int 0, .int 0, .int 0], cI 120 (fun _ => 0), cI 563 (fun _ => 0), cI 563 (fun _ => 0), cI 7882 (fun _ => 0), cI 1126 (fun _ => 0), cZ 2 (fun _ => 0)] (n := 6) rfl rfl) ?_
  refine r_putfRF (pc := 52) fl_X8_25 ⟨_, _, rfl⟩ dX8_init_52 (lget0 rfl) (Nat.le_of_ble_eq_true rfl) (fun _ => ⟨rfl, rfl⟩) rfl ?_
  refine G_M (lset_set0 [cO 7 [.int 0, .ref (a + 1), .int 0, .ref (a + 2), .ref (a + 3), .ref (a + 4), .int 0, .ref (a + 5), .ref (a + 6), .null, .int 0, .int 0, .int 0, .int 0, .int 0], cI 120 (fun _ => 0), cI 563 (fun _ => 0), cI 563 (fun _ => 0), cI 7882 (fun _ => 0), cI 1126 (fun _ => 0), cZ 2 (fun _ => 0)] (Nat.le_of_ble_eq_true rfl) rfl) ?_
  refine r_aload0 (pc := 55) dX8_init_55 ?_
  refine n_bipush (pc := 56) 56 (by decide) dX8_init_56 ?_
  refine r_newZ (pc := 58) (a + 7) (by omega) (by omega) (by decide) dX8_init_58 (by decide) (by decide) ?_
  refine G_M (lset_push [cO 7 [.int 0, .ref (a + 1), .int 0, .ref (a + 2), .ref (a + 3), .ref (a + 4), .int 0, .ref (a + 5), .ref (a + 6), .null, .int 0, .int 0, .int 0, .int 0, .int 0], cI 120 (fun _ => 0), cI 563 (fun _ => 0), cI 563 (fun _ => 0), cI 7882 (fun _ => 0), cI 1126 (fun _ => 0), cZ 2 (fun _ => 0), cZ 56 (fun _ => 0)] (n := 7) rfl rfl) ?_
  refine r_putfRF (pc := 60) fl_X8_29 ⟨_, _, rfl⟩ dX8_init_60 (lget0 rfl) (Nat.le_of_ble_eq_true rfl) (fun _ => ⟨rfl, rfl⟩) rfl ?_
  refine G_M (lset_set0 [cO 7 [.int 0, .ref (a + 1), .int 0, .ref (a + 2), .ref (a + 3), .ref (a + 4), .int 0, .ref (a + 5), .ref (a + 6), .ref (a + 7), .int 0, .int 0, .int 0, .int 0, .int 0], cI 120 (fun _ => 0), cI 563 (fun _ => 0), cI 563 (fun _ => 0), cI 7882 (fun _ => 0), cI 1126 (fun _ => 0), cZ 2 (fun _ => 0), cZ 56 (fun _ => 0)] (Nat.le_of_ble_eq_true rfl) rfl) ?_
  refine G_M (M1 := kset M a B00) rfl ?_
  refine r_aload0 (pc := 63) dX8_init_63 ?_
  refine r_getf (pc := 64) fl_X8_13 dX8_init_64 (kget0 rfl) rfl ?_
  refine n_iconst_3 (pc := 67) dX8_init_67 ?_
  refine n_iconst_1 (pc := 68) dX8_init_68 ?_
  refine r_callS3w (pc := 69) lk_X8_32 dX8_init_69 (hK1.to (M := M) (b := a) (S := B00) (s8_start (n := 3) (m := 1) (by decide) (by decide) (by decide) (by decide)))  (by decide) (Nat.le_of_ble_eq_true rfl) ⟨by decide, by decide⟩ (fun M9 h9 => ?_)
  obtain ⟨f', hI2, rfl⟩ := h9
  exact p_return (pc := 72) false rfl rfl dX8_init_72 (by decide) (by decide) (Or.inr rfl) ⟨rfl, _, ⟨hI2, ⟨Nat.zero_le _, fun i hi => absurd hi (Nat.not_lt_zero _), rfl, fun i hi => absurd hi (Nat.not_lt_zero _)⟩, ⟨rfl, fun i hi => absurd hi (Nat.not_lt_zero _)⟩, fun s hs => ⟨rfl, fun y hy => by cases hy⟩⟩, rfl⟩
