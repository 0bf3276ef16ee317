set_option maxRecDepth 20000 in
theorem s_X2_init {M : Mem} {m : Nat} (h : M m = some (cO 1 df_X2)) : SpecA mX2_init 3 99 5628 (m + 1) [.ref m] M (tP none (fun Mf => MEM Mf m 0 0 ∧ (∀ i, i < 14 → ∃ T, sAt Mf (m + 2 + 7 * i) T) ∧ ∀ j, j < m → Mf j = M j)) := by
  refine SpecA_of [some (.ref m), none] (by decide) (Nat.le_of_ble_eq_true rfl) rfl (fun h500 => ?_)
  refine r_aload0 (pc := 0) dX2_init_0 ?_
  refine r_objInit (pc := 1) (tG 207 (by decide +kernel) (by decide +kernel)) (tG 45 (by decide +kernel) (by decide +kernel)) (tG 46 (by decide +kernel) (by decide +kernel)) dX2_init_1 (by decide) (Nat.le_of_ble_eq_true rfl) ?_
  refine r_aload0 (pc := 4) dX2_init_4 ?_
  refine n_bipush (pc := 5) 14 (by decide) dX2_init_5 ?_
  refine r_newS (pc := 7) (m + 1) (by omega) (by omega) (by decide) (tG 208 (by decide +kernel) (by decide +kernel)) dX2_init_7 (by decide) (by decide) ?_
  refine r_putfRF (pc := 10) fl_X2_11 ⟨_, _, rfl⟩ dX2_init_10 ((mset_ne (by omega)).trans h) (Nat.le_of_ble_eq_true rfl) (fun _ => ⟨rfl, rfl⟩) rfl ?_
  refine n_iconst_0 (pc := 13) dX2_init_13 ?_
  refine r_istore1 (pc := 14) dX2_init_14 rfl ?_
  refine up_to (N := 14) (k := 0) (fun k => ∀ M1 : Mem, (M1 m = some (cO 1 [.ref (m + 1), .int 0, .int 0]) ∧ (∃ f, M1 (m + 1) = some (cS 14 f) ∧ ∀ i, i < k → f i = some (m + 2 + 7 * i)) ∧ (∀ i, i < k → ∃ T, sAt M1 (m + 2 + 7 * i) T) ∧ ∀ j, j < m → M1 j = M j) → G mX2_init 3 (.inl false) 99 5628 (tP none (fun Mf => MEM Mf m 0 0 ∧ (∀ i, i < 14 → ∃ T, sAt Mf (m + 2 + 7 * i) T) ∧ ∀ j, j < m → Mf j = M j)) (some (m + 1)) (1 + 7 * k) (14 + 401 * k) 15 [some (.ref m), some (.int (nI k))] [] M1) (fun M1 hM1 => ?_) (fun k hk ih M1 hM1 => ?_) (Nat.zero_le _) _ ⟨mset_same, ⟨_, (mset_ne (by omega)).trans mset_same, fun i hi => absurd hi (Nat.not_lt_zero _)⟩, fun i hi => absurd hi (Nat.not_lt_zero _), fun j hj => (mset_ne (by omega)).trans (mset_ne (by omega))⟩
  · obtain ⟨m1, ⟨f, m2, m3⟩, m4, m5⟩ := hM1
    refine r_iload1 (pc := 15) dX2_init_15 ?_
    refine n_bipush (pc := 16) 14 (by decide) dX2_init_16 ?_
    refine n_icmp_ge (pc := 18) 40 (by decide) dX2_init_18 (by omega) (by omega) (fun hc18 => ?_) (fun hc18 => absurd hc18 (by omega))
    exact p_return (pc := 40) false rfl rfl dX2_init_40 (by decide) (by decide) (Or.inr rfl) ⟨rfl, ⟨by decide, by decide, m1, f, m2, m3⟩, m4, m5⟩
  · obtain ⟨m1, ⟨f, m2, m3⟩, m4, m5⟩ := hM1
    refine r_iload1 (pc := 15) dX2_init_15 ?_
    refine n_bipush (pc := 16) 14 (by decide) dX2_init_16 ?_
    refine n_icmp_ge (pc := 18) 40 (by decide) dX2_init_18 (by omega) (by omega) (fun hc18 => absurd hc18 (by omega)) (fun hc18 => ?_)
    refine r_aload0 (pc := 21) dX2_init_21 ?_
    refine r_getf (pc := 22) fl_X2_11 dX2_init_22 m1 rfl ?_
    refine r_iload1 (pc := 25) dX2_init_25 ?_
    refine r_new (pc := 26) (ci := 4) (fs := df_X5) (m + 2 + 7 * k) (by omega) (by omega) rfl (tG 208 (by decide +kernel) (by decide +kernel)) (tG 54 (by decide +kernel) (by decide +kernel)) (tG 20 (by decide +kernel) (by decide +kernel)) dv_X5 (fun _ => rfl) dX2_init_26 (by omega) (by omega) ?_
    refine r_dup (pc := 29) dX2_init_29 rfl ?_
    refine r_callA0 (pc := 30) (k' := m + 2 + 7 * k + 1) (Or.inr lk_X2_17) dX2_init_30 (by omega) (by omega) (s_X5_init (M := mset M1 (m + 2 + 7 * k) (cO 4 df_X5)) (a := m + 2 + 7 * k) mset_same) (by decide) (Nat.le_of_ble_eq_true rfl) ⟨by omega, by omega⟩ (fun M9 h9 => ?_)
    subst h9
    refine r_aast (pc := 33) dX2_init_33 ((lset_out (Or.inl (by omega))).trans ((mset_ne (by omega)).trans m2)) (lget0 rfl) (vp_in_nI hk (by decide)) ?_
    rw [nI_clamp (by omega)]
    refine n_iinc1 (pc := 34) dX2_init_34 rfl ?_
    refine r_goto (pc := 37) 15 (by decide) dX2_init_37 ?_
    rw [show 1 + 7 * k + 1 + 6 = 1 + 7 * (k + 1) by omega, show 14 + 401 * k + 9 + 392 = 14 + 401 * (k + 1) by omega]
    refine ih _ ⟨(mset_ne (by omega)).trans ((lset_out (Or.inl (by omega))).trans ((mset_ne (by omega)).trans m1)), ⟨_, mset_same, fun i hi => ?_⟩, fun i hi => ?_, fun j hj => (mset_ne (by omega)).trans ((lset_out (Or.inl (by omega))).trans ((mset_ne (by omega)).trans (m5 j hj)))⟩
    · unfold va_up
      by_cases e : i = k
      · rw [if_pos e, e]
      · rw [if_neg e]; exact m3 i (by omega)
    · by_cases e : i = k
      · subst e
        exact ⟨S00, lset_sAt.ext (fun j p q => mset_ne (by omega))⟩
      · obtain ⟨T, t1⟩ := m4 i (by omega)
        exact ⟨T, t1.ext (fun j p q => (mset_ne (by omega)).trans ((lset_out (Or.inl (by omega))).trans (mset_ne (by omega))))⟩
set_option maxRecDepth 20000 in
theorem s_X4_init {M : Mem} {m : Nat} (h : M m = some (cO 3 df_X4)) : SpecA mX4_init 3 16 806 (m + 1) [.ref m] M (tP none (fun Mf => SLT Mf m (fun _ => false) ∧ (∀ i, i < 2 → ∃ T, sAt Mf (m + 3 + 7 * i) T) ∧ ∀ j, j < m → Mf j = M j)) := by
  refine SpecA_of [some (.ref m), none] (by decide) (Nat.le_of_ble_eq_true rfl) rfl (fun h500 => ?_)
  refine r_aload0 (pc := 0) dX4_init_0 ?_
  refine r_objInit (pc := 1) (tG 227 (by decide +kernel) (by decide +kernel)) (tG 45 (by decide +kernel) (by decide +kernel)) (tG 46 (by decide +kernel) (by decide +kernel)) dX4_init_1 (by decide) (Nat.le_of_ble_eq_true rfl) ?_
  refine r_aload0 (pc := 4) dX4_init_4 ?_
  refine n_iconst_2 (pc := 5) dX4_init_5 ?_
  refine r_newS (pc := 6) (m + 1) (by omega) (by omega) (by decide) (tG 228 (by decide +kernel) (by decide +kernel)) dX4_init_6 (by decide) (by decide) ?_
  refine r_putfRF (pc := 9) fl_X4_11 ⟨_, _, rfl⟩ dX4_init_9 ((mset_ne (by omega)).trans h) (Nat.le_of_ble_eq_true rfl) (fun _ => ⟨rfl, rfl⟩) rfl ?_
  refine r_aload0 (pc := 12) dX4_init_12 ?_
  refine n_iconst_2 (pc := 13) dX4_init_13 ?_
  refine r_newZ (pc := 14) (m + 2) (by omega) (by omega) (by decide) dX4_init_14 (by decide) (by decide) ?_
  refine r_putfRF (pc := 16) fl_X4_17 ⟨_, _, rfl⟩ dX4_init_16 ((mset_ne (by omega)).trans mset_same) (Nat.le_of_ble_eq_true rfl) (fun _ => ⟨rfl, rfl⟩) rfl ?_
  refine n_iconst_0 (pc := 19) dX4_init_19 ?_
  refine r_istore1 (pc := 20) dX4_init_20 rfl ?_
  refine up_to (N := 2) (k := 0) (fun k => ∀ M1 : Mem, (M1 m = some (cO 3 [.ref (m + 1), .ref (m + 2)]) ∧ (∃ f, M1 (m + 1) = some (cS 2 f) ∧ ∀ i, i < k → f i = some (m + 3 + 7 * i)) ∧ M1 (m + 2) = some (cZ 2 (fun _ => 0)) ∧ (∀ i, i < k → ∃ T, sAt M1 (m + 3 + 7 * i) T) ∧ ∀ j, j < m → M1 j = M j) → G mX4_init 3 (.inl false) 16 806 (tP none (fun Mf => SLT Mf m (fun _ => false) ∧ (∀ i, i < 2 → ∃ T, sAt Mf (m + 3 + 7 * i) T) ∧ ∀ j, j < m → Mf j = M j)) (some (m + 1)) (2 + 7 * k) (4 + 401 * k) 21 [some (.ref m), some (.int (nI k))] [] M1) (fun M1 hM1 => ?_) (fun k hk ih M1 hM1 => ?_) (Nat.zero_le _) _ ⟨mset_same, ⟨_, (mset_ne (by omega)).trans ((mset_ne (by omega)).trans ((mset_ne (by omega)).trans mset_same)), fun i hi => absurd hi (Nat.not_lt_zero _)⟩, (mset_ne (by omega)).trans mset_same, fun i hi => absurd hi (Nat.not_lt_zero _), fun j hj => (mset_ne (by omega)).trans ((mset_ne (by omega)).trans ((mset_ne (by omega)).trans (mset_ne (by omega))))⟩
  · obtain ⟨m1, ⟨f, m2, m3⟩, m6, m4, m5⟩ := hM1
    refine r_iload1 (pc := 21) dX4_init_21 ?_
    refine n_iconst_2 (pc := 22) dX4_init_22 ?_
    refine n_icmp_ge (pc := 23) 45 (by decide) dX4_init_23 (by omega) (by omega) (fun hc23 => ?_) (fun hc23 => absurd hc23 (by omega))
    exact p_return (pc := 45) false rfl rfl dX4_init_45 (by decide) (by decide) (Or.inr rfl) ⟨rfl, ⟨f, _, m1, m2, m3, m6, fun i hi => rfl⟩, m4, m5⟩
  · obtain ⟨m1, ⟨f, m2, m3⟩, m6, m4, m5⟩ := hM1
    refine r_iload1 (pc := 21) dX4_init_21 ?_
    refine n_iconst_2 (pc := 22) dX4_init_22 ?_
    refine n_icmp_ge (pc := 23) 45 (by decide) dX4_init_23 (by omega) (by omega) (fun hc23 => absurd hc23 (by omega)) (fun hc23 => ?_)
    refine r_aload0 (pc := 26) dX4_init_26 ?_
    refine r_getf (pc := 27) fl_X4_11 dX4_init_27 m1 rfl ?_
    refine r_iload1 (pc := 30) dX4_init_30 ?_
    refine r_new (pc := 31) (ci := 4) (fs := df_X5) (m + 3 + 7 * k) (by omega) (by omega) rfl (tG 228 (by decide +kernel) (by decide +kernel)) (tG 54 (by decide +kernel) (by decide +kernel)) (tG 20 (by decide +kernel) (by decide +kernel)) dv_X5 (fun _ => rfl) dX4_init_31 (by omega) (by omega) ?_
    refine r_dup (pc := 34) dX4_init_34 rfl ?_
    refine r_callA0 (pc := 35) (k' := m + 3 + 7 * k + 1) (Or.inr lk_X4_21) dX4_init_35 (by omega) (by omega) (s_X5_init (M := mset M1 (m + 3 + 7 * k) (cO 4 df_X5)) (a := m + 3 + 7 * k) mset_same) (by decide) (Nat.le_of_ble_eq_true rfl) ⟨by omega, by omega⟩ (fun M9 h9 => ?_)
    subst h9
    refine r_aast (pc := 38) dX4_init_38 ((lset_out (Or.inl (by omega))).trans ((mset_ne (by omega)).trans m2)) (lget0 rfl) (vp_in_nI hk (by decide)) ?_
    rw [nI_clamp (by omega)]
    refine n_iinc1 (pc := 39) dX4_init_39 rfl ?_
    refine r_goto (pc := 42) 21 (by decide) dX4_init_42 ?_
    rw [show 2 + 7 * k + 1 + 6 = 2 + 7 * (k + 1) by omega, show 4 + 401 * k + 9 + 392 = 4 + 401 * (k + 1) by omega]
    refine ih _ ⟨(mset_ne (by omega)).trans ((lset_out (Or.inl (by omega))).trans ((mset_ne (by omega)).trans m1)), ⟨_, mset_same, fun i hi => ?_⟩, (mset_ne (by omega)).trans ((lset_out (Or.inl (by omega))).trans ((mset_ne (by omega)).trans m6)), fun i hi => ?_, fun j hj => (mset_ne (by omega)).trans ((lset_out (Or.inl (by omega))).trans ((mset_ne (by omega)).trans (m5 j hj)))⟩
    · unfold va_up
      by_cases e : i = k
      · rw [if_pos e, e]
      · rw [if_neg e]; exact m3 i (by omega)
    · by_cases e : i = k
      · subst e
        exact ⟨S00, lset_sAt.ext (fun j p q => mset_ne (by omega))⟩
      · obtain ⟨T, t1⟩ := m4 i (by omega)
        exact ⟨T, t1.ext (fun j p q => (mset_ne (by omega)).trans ((lset_out (Or.inl (by omega))).trans (mset_ne (by omega))))⟩
/-- the world at the start -/
def w00 : WS := (startZ 3 1, (0, fun _ => startZ 3 1), (fun _ => none), 0, fun _ => 0)
theorem w00_ok : WOK w00 := ⟨⟨startZ_ok (by decide) (by decide) (by decide) (by decide), startZ_tok _ _⟩, ⟨Nat.zero_le _, fun i hi => absurd hi (Nat.not_lt_zero _)⟩, fun s y hy => (by cases hy), Nat.zero_le _, fun i hi => absurd hi (Nat.not_lt_zero _)⟩
/-- the cells of a new portrait at a -/
def NEW (a : Nat) (M : Mem) : Prop := M a = some (cO 6 [.ref (a + 1), .ref (a + 23), .ref (a + 45), .ref (a + 145), .ref (a + 162)]) ∧ (∃ S, bset M (a + 1) S = M ∧ InvB S (startZ 3 1)) ∧ (∃ S, bset M (a + 23) S = M) ∧ (MEM M (a + 45) 0 0 ∧ ∀ i, i < 14 → ∃ T, sAt M (a + 45 + 2 + 7 * i) T) ∧ (SLT M (a + 145) (fun _ => false) ∧ ∀ i, i < 2 → ∃ T, sAt M (a + 145 + 3 + 7 * i) T) ∧ TXT M (a + 162) 0 (fun _ => 0)
set_option maxRecDepth 20000 in
theorem s_X7_init {M : Mem} {a : Nat} (h : M a = some (cO 6 df_X7)) : SpecA mX7_init 4 163 8973 (a + 1) [.ref a] M (tP none (fun Mf => NEW a Mf ∧ ∀ j, j < a → Mf j = M j)) := by
  refine SpecA_of [some (.ref a)] (by decide) (Nat.le_of_ble_eq_true rfl) rfl (fun h500 => ?_)
  refine r_aload0 (pc := 0) dX7_init_0 ?_
  refine r_objInit (pc := 1) (tG 44 (by decide +kernel) (by decide +kernel)) (tG 45 (by decide +kernel) (by decide +kernel)) (tG 46 (by decide +kernel) (by decide +kernel)) dX7_init_1 (by decide) (Nat.le_of_ble_eq_true rfl) ?_
  refine r_aload0 (pc := 4) dX7_init_4 ?_
  refine r_new (pc := 5) (ci := 0) (fs := df_X0) (a + 1) (by omega) (by omega) rfl (tG 47 (by decide +kernel) (by decide +kernel)) (tG 48 (by decide +kernel) (by decide +kernel)) (tG 19 (by decide +kernel) (by decide +kernel)) dv_X0 (fun _ => rfl) dX7_init_5 (by decide) (by decide) ?_
  refine r_dup (pc := 8) dX7_init_8 rfl ?_
  refine r_callA0 (pc := 9) (k' := a + 2) (Or.inr lk_X7_9) dX7_init_9 (by omega) (by omega) (s_X0_init (M := mset M (a + 1) (cO 0 df_X0)) (a := a + 1) mset_same) (by decide) (Nat.le_of_ble_eq_true rfl) (by decide) (fun M1 h1 => ?_)
  have a1 : ∀ j, j < a + 1 → M1 j = M j := fun j hj => by rw [h1, bset_out (by omega), mset_ne (by omega)]
  have f1 : bset M1 (a + 1) B00 = M1 := by rw [h1, bset_bset]
  clear h1
  refine r_putfRF (pc := 12) fl_X7_10 ⟨_, _, rfl⟩ dX7_init_12 ((a1 a (by omega)).trans h) (Nat.le_of_ble_eq_true rfl) (fun _ => ⟨rfl, rfl⟩) rfl ?_
  obtain ⟨N1, e1⟩ : ∃ N, N = mset M1 a (cO 6 [.ref (a + 1), .null, .null, .null, .null]) := ⟨_, rfl⟩
  refine G_M (M1 := N1) e1.symm ?_
  have c1 : ∀ j, j ≠ a → N1 j = M1 j := fun j hj => by rw [e1]; exact mset_ne hj
  have h : N1 a = some (cO 6 [.ref (a + 1), .null, .null, .null, .null]) := by rw [e1]; exact mset_same
  clear e1
  have b1 : ∀ j, j ≠ a → j < a + 1 → N1 j = M j := fun j p q => (c1 j p).trans (a1 j q)
  have f1 : bset N1 (a + 1) B00 = N1 := bset_ext (fun j p q => c1 j (by omega)) f1
  refine r_aload0 (pc := 15) dX7_init_15 ?_
  refine r_new (pc := 16) (ci := 0) (fs := df_X0) (a + 23) (by omega) (by omega) rfl (tG 47 (by decide +kernel) (by decide +kernel)) (tG 48 (by decide +kernel) (by decide +kernel)) (tG 19 (by decide +kernel) (by decide +kernel)) dv_X0 (fun _ => rfl) dX7_init_16 (by decide) (by decide) ?_
  refine r_dup (pc := 19) dX7_init_19 rfl ?_
  refine r_callA0 (pc := 20) (k' := a + 24) (Or.inr lk_X7_9) dX7_init_20 (by omega) (by omega) (s_X0_init (M := mset N1 (a + 23) (cO 0 df_X0)) (a := a + 23) mset_same) (by decide) (Nat.le_of_ble_eq_true rfl) (by decide) (fun M2 h2 => ?_)
  have a2 : ∀ j, j < a + 23 → M2 j = N1 j := fun j hj => by rw [h2, bset_out (by omega), mset_ne (by omega)]
  have f2 : bset M2 (a + 23) B00 = M2 := by rw [h2, bset_bset]
  clear h2
  refine r_putfRF (pc := 23) fl_X7_16 ⟨_, _, rfl⟩ dX7_init_23 ((a2 a (by omega)).trans h) (Nat.le_of_ble_eq_true rfl) (fun _ => ⟨rfl, rfl⟩) rfl ?_
  obtain ⟨N2, e2⟩ : ∃ N, N = mset M2 a (cO 6 [.ref (a + 1), .ref (a + 23), .null, .null, .null]) := ⟨_, rfl⟩
  refine G_M (M1 := N2) e2.symm ?_
  have c2 : ∀ j, j ≠ a → N2 j = M2 j := fun j hj => by rw [e2]; exact mset_ne hj
  have h : N2 a = some (cO 6 [.ref (a + 1), .ref (a + 23), .null, .null, .null]) := by rw [e2]; exact mset_same
  clear e2
  have b2 : ∀ j, j ≠ a → j < a + 23 → N2 j = N1 j := fun j p q => (c2 j p).trans (a2 j q)
  have f1 : bset N2 (a + 1) B00 = N2 := bset_ext (fun j p q => b2 j (by omega) (by omega)) f1
  have f2 : bset N2 (a + 23) B00 = N2 := bset_ext (fun j p q => c2 j (by omega)) f2
  refine r_aload0 (pc := 26) dX7_init_26 ?_
  refine r_new (pc := 27) (ci := 1) (fs := df_X2) (a + 45) (by omega) (by omega) rfl (tG 202 (by decide +kernel) (by decide +kernel)) (tG 203 (by decide +kernel) (by decide +kernel)) (tG 22 (by decide +kernel) (by decide +kernel)) dv_X2 (fun _ => rfl) dX7_init_27 (by decide) (by decide) ?_
  refine r_dup (pc := 30) dX7_init_30 rfl ?_
  refine r_callA0 (pc := 31) (k' := a + 46) (Or.inl lk_X7_21) dX7_init_31 (by omega) (by omega) (s_X2_init (M := mset N2 (a + 45) (cO 1 df_X2)) (m := a + 45) mset_same) (by decide) (Nat.le_of_ble_eq_true rfl) (by decide) (fun M3 h3 => ?_)
  obtain ⟨f3, g3, h3⟩ := h3
  have a3 : ∀ j, j < a + 45 → M3 j = N2 j := fun j hj => (h3 j hj).trans (mset_ne (by omega))
  clear h3
  refine r_putfRF (pc := 34) fl_X7_22 ⟨_, _, rfl⟩ dX7_init_34 ((a3 a (by omega)).trans h) (Nat.le_of_ble_eq_true rfl) (fun _ => ⟨rfl, rfl⟩) rfl ?_
  obtain ⟨N3, e3⟩ : ∃ N, N = mset M3 a (cO 6 [.ref (a + 1), .ref (a + 23), .ref (a + 45), .null, .null]) := ⟨_, rfl⟩
  refine G_M (M1 := N3) e3.symm ?_
  have c3 : ∀ j, j ≠ a → N3 j = M3 j := fun j hj => by rw [e3]; exact mset_ne hj
  have h : N3 a = some (cO 6 [.ref (a + 1), .ref (a + 23), .ref (a + 45), .null, .null]) := by rw [e3]; exact mset_same
  clear e3
  have b3 : ∀ j, j ≠ a → j < a + 45 → N3 j = N2 j := fun j p q => (c3 j p).trans (a3 j q)
  have f1 : bset N3 (a + 1) B00 = N3 := bset_ext (fun j p q => b3 j (by omega) (by omega)) f1
  have f2 : bset N3 (a + 23) B00 = N3 := bset_ext (fun j p q => b3 j (by omega) (by omega)) f2
  have f3 : MEM N3 (a + 45) 0 0 := f3.ext (fun j p q => c3 j (by omega))
  have g3 : ∀ i, i < 14 → ∃ T, sAt N3 (a + 45 + 2 + 7 * i) T := fun i hi => by
    obtain ⟨T, t1⟩ := g3 i hi
    exact ⟨T, t1.ext (fun j p q => c3 j (by omega))⟩
  refine r_aload0 (pc := 37) dX7_init_37 ?_
  refine r_new (pc := 38) (ci := 3) (fs := df_X4) (a + 145) (by omega) (by omega) rfl (tG 222 (by decide +kernel) (by decide +kernel)) (tG 223 (by decide +kernel) (by decide +kernel)) (tG 23 (by decide +kernel) (by decide +kernel)) dv_X4 (fun _ => rfl) dX7_init_38 (by decide) (by decide) ?_
  refine r_dup (pc := 41) dX7_init_41 rfl ?_
  refine r_callA0 (pc := 42) (k' := a + 146) (Or.inl lk_X7_28) dX7_init_42 (by omega) (by omega) (s_X4_init (M := mset N3 (a + 145) (cO 3 df_X4)) (m := a + 145) mset_same) (by decide) (Nat.le_of_ble_eq_true rfl) (by decide) (fun M4 h4 => ?_)
  obtain ⟨f4, g4, h4⟩ := h4
  have a4 : ∀ j, j < a + 145 → M4 j = N3 j := fun j hj => (h4 j hj).trans (mset_ne (by omega))
  clear h4
  refine r_putfRF (pc := 45) fl_X7_29 ⟨_, _, rfl⟩ dX7_init_45 ((a4 a (by omega)).trans h) (Nat.le_of_ble_eq_true rfl) (fun _ => ⟨rfl, rfl⟩) rfl ?_
  obtain ⟨N4, e4⟩ : ∃ N, N = mset M4 a (cO 6 [.ref (a + 1), .ref (a + 23), .ref (a + 45), .ref (a + 145), .null]) := ⟨_, rfl⟩
  refine G_M (M1 := N4) e4.symm ?_
  have c4 : ∀ j, j ≠ a → N4 j = M4 j := fun j hj => by rw [e4]; exact mset_ne hj
  have h : N4 a = some (cO 6 [.ref (a + 1), .ref (a + 23), .ref (a + 45), .ref (a + 145), .null]) := by rw [e4]; exact mset_same
  clear e4
  have b4 : ∀ j, j ≠ a → j < a + 145 → N4 j = N3 j := fun j p q => (c4 j p).trans (a4 j q)
  have f1 : bset N4 (a + 1) B00 = N4 := bset_ext (fun j p q => b4 j (by omega) (by omega)) f1
  have f2 : bset N4 (a + 23) B00 = N4 := bset_ext (fun j p q => b4 j (by omega) (by omega)) f2
  have f3 : MEM N4 (a + 45) 0 0 := f3.ext (fun j p q => b4 j (by omega) (by omega))
  have g3 : ∀ i, i < 14 → ∃ T, sAt N4 (a + 45 + 2 + 7 * i) T := fun i hi => by
    obtain ⟨T, t1⟩ := g3 i hi
    exact ⟨T, t1.ext (fun j p q => b4 j (by omega) (by omega))⟩
  have f4 : SLT N4 (a + 145) (fun _ => false) := f4.ext (fun j p q => c4 j (by omega))
  have g4 : ∀ i, i < 2 → ∃ T, sAt N4 (a + 145 + 3 + 7 * i) T := fun i hi => by
    obtain ⟨T, t1⟩ := g4 i hi
    exact ⟨T, t1.ext (fun j p q => c4 j (by omega))⟩
  refine r_aload0 (pc := 48) dX7_init_48 ?_
  refine r_new (pc := 49) (ci := 5) (fs := df_X6) (a + 162) (by omega) (by omega) rfl (tG 238 (by decide +kernel) (by decide +kernel)) (tG 239 (by decide +kernel) (by decide +kernel)) (tG 24 (by decide +kernel) (by decide +kernel)) dv_X6 (fun _ => rfl) dX7_init_49 (by decide) (by decide) ?_
  refine r_dup (pc := 52) dX7_init_52 rfl ?_
  refine r_callA0 (pc := 53) (k' := a + 163) (Or.inr lk_X7_35) dX7_init_53 (by omega) (by omega) (s_X6_init (M := mset N4 (a + 162) (cO 5 df_X6)) (a := a + 162) (f := fun _ => 0) mset_same) (by decide) (Nat.le_of_ble_eq_true rfl) (by decide) (fun M5 h5 => ?_)
  obtain ⟨f5, h5⟩ := h5
  have a5 : ∀ j, j < a + 162 → M5 j = N4 j := fun j hj => (h5 j hj).trans (mset_ne (by omega))
  clear h5
  refine r_putfRF (pc := 56) fl_X7_36 ⟨_, _, rfl⟩ dX7_init_56 ((a5 a (by omega)).trans h) (Nat.le_of_ble_eq_true rfl) (fun _ => ⟨rfl, rfl⟩) rfl ?_
  obtain ⟨N5, e5⟩ : ∃ N, N = mset M5 a (cO 6 [.ref (a + 1), .ref (a + 23), .ref (a + 45), .ref (a + 145), .ref (a + 162)]) := ⟨_, rfl⟩
  refine G_M (M1 := N5) e5.symm ?_
  have c5 : ∀ j, j ≠ a → N5 j = M5 j := fun j hj => by rw [e5]; exact mset_ne hj
  have h : N5 a = some (cO 6 [.ref (a + 1), .ref (a + 23), .ref (a + 45), .ref (a + 145), .ref (a + 162)]) := by rw [e5]; exact mset_same
  clear e5
  have b5 : ∀ j, j ≠ a → j < a + 162 → N5 j = N4 j := fun j p q => (c5 j p).trans (a5 j q)
  have f1 : bset N5 (a + 1) B00 = N5 := bset_ext (fun j p q => b5 j (by omega) (by omega)) f1
  have f2 : bset N5 (a + 23) B00 = N5 := bset_ext (fun j p q => b5 j (by omega) (by omega)) f2
  have f3 : MEM N5 (a + 45) 0 0 := f3.ext (fun j p q => b5 j (by omega) (by omega))
  have g3 : ∀ i, i < 14 → ∃ T, sAt N5 (a + 45 + 2 + 7 * i) T := fun i hi => by
    obtain ⟨T, t1⟩ := g3 i hi
    exact ⟨T, t1.ext (fun j p q => b5 j (by omega) (by omega))⟩
  have f4 : SLT N5 (a + 145) (fun _ => false) := f4.ext (fun j p q => b5 j (by omega) (by omega))
  have g4 : ∀ i, i < 2 → ∃ T, sAt N5 (a + 145 + 3 + 7 * i) T := fun i hi => by
    obtain ⟨T, t1⟩ := g4 i hi
    exact ⟨T, t1.ext (fun j p q => b5 j (by omega) (by omega))⟩
  have f5 : TXT N5 (a + 162) 0 (fun _ => 0) := f5.ext (fun j p q => c5 j (by omega))
  have hlow : ∀ j, j < a → N5 j = M j := fun j hj => (b5 j (by omega) (by omega)).trans ((b4 j (by omega) (by omega)).trans ((b3 j (by omega) (by omega)).trans ((b2 j (by omega) (by omega)).trans (b1 j (by omega) (by omega)))))
  clear a1 a2 a3 a4 a5 b1 b2 b3 b4 b5 c1 c2 c3 c4 c5
  have hst := s_start (M := N5) (b := a + 1) (S := B00) (n := 3) (m := 1) (by decide) (by decide) (by decide) (by decide)
  rw [f1] at hst
  have hb1 : N5 (a + 1) = some (cO 0 [.ref (a + 1 + 1), .int 0, .int 0, .int 0, .int 0, .ref (a + 1 + 8), .ref (a + 1 + 9), .ref (a + 1 + 10), .ref (a + 1 + 11), .ref (a + 1 + 12), .ref (a + 1 + 13), .ref (a + 1 + 20), .ref (a + 1 + 21)]) := by rw [← f1]; exact bget0 rfl
  refine r_aload0 (pc := 59) dX7_init_59 ?_
  refine r_getf (pc := 60) fl_X7_10 dX7_init_60 h rfl ?_
  refine n_iconst_3 (pc := 63) dX7_init_63 ?_
  refine n_iconst_1 (pc := 64) dX7_init_64 ?_
  refine r_callV2w (pc := 65) lk_X7_40 dX7_init_65 hb1 hst  (by decide) (Nat.le_of_ble_eq_true rfl) ⟨by decide, by decide⟩ (fun M9 h9 => ?_)
  obtain ⟨S2, hI2, rfl⟩ := h9
  have ho : ∀ j, j < a + 1 ∨ a + 23 ≤ j → bset N5 (a + 1) S2 j = N5 j := fun j hj => bset_out (by omega)
  exact p_return (pc := 68) false rfl rfl dX7_init_68 (by decide) (by decide) (Or.inr rfl) ⟨rfl, ⟨(ho a (by omega)).trans h, ⟨S2, bset_bset, hI2⟩, ⟨B00, bset_ext (fun j p q => ho j (by omega)) f2⟩, ⟨f3.ext (fun j p q => ho j (by omega)), fun i hi => by
    obtain ⟨T, t1⟩ := g3 i hi
    exact ⟨T, t1.ext (fun j p q => ho j (by omega))⟩⟩, ⟨f4.ext (fun j p q => ho j (by omega)), fun i hi => by
    obtain ⟨T, t1⟩ := g4 i hi
    exact ⟨T, t1.ext (fun j p q => ho j (by omega))⟩⟩, f5.ext (fun j p q => ho j (by omega))⟩, fun j hj => (ho j (by omega)).trans (hlow j hj)⟩
