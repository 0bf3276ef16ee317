theorem mm_sset {M : Mem} {m o k o' k' c : Nat} {X : SS} (h : m < c) : mmset (sset (mmset M m o k) c X) m o' k' = mmset (sset M c X) m o' k' := by
  funext i
  by_cases e : i = m
  · subst e
    unfold mmset
    rw [mset_same, mset_same]
  · unfold mmset
    rw [mset_ne e, mset_ne e]
    unfold sset
    split
    · rfl
    · rw [mset_ne e]
/-- where the next is remembered -/
def rmO (o k : Nat) : Nat := if k = 14 then (o + 1) % 14 else o
def rmK (k : Nat) : Nat := if k = 14 then 13 else k
def rmC (m o k : Nat) : Nat := m + 2 + 7 * ((rmO o k + rmK k) % 14)
section REM
variable {M : Mem} {m o k a : Nat} {T : SS}
set_option maxRecDepth 20000 in
theorem s_remember (h : MEM M m o k) (hT : sAt M a T) (ham : a + 7 ≤ m) (hS : ∀ i, i < 14 → ∃ T', sAt M (m + 2 + 7 * i) T') : SpecP mX2_remember 2 0 0 [.ref m, .ref a] M (tP none (fun Mf => ∃ T', Mf = mmset (sset M (rmC m o k) (cpS T T')) m (rmO o k) (rmK k + 1))) := by
  refine Spec_of [some (.ref m), some (.ref a)] (by decide) (Nat.le_of_ble_eq_true rfl) rfl ?_
  have ho : rmO o k < 14 := by unfold rmO; have := h.1; split <;> omega
  have hk : rmK k < 14 := by unfold rmK; have := h.2.1; split <;> omega
  have fin : ∀ M1, M1 = mmset M m (rmO o k) (rmK k) →
    G mX2_remember 2 (.inl false) 0 0 (tP none (fun Mf => ∃ T', Mf = mmset (sset M (rmC m o k) (cpS T T')) m (rmO o k) (rmK k + 1))) none 0 0 32 [some (.ref m), some (.ref a)] [] M1
    := by
    intro M1 e1
    have hn := h.set ho (Nat.le_of_lt hk)
    rw [← e1] at hn
    have hn3 := hn.2.2.1
    obtain ⟨T', hT'⟩ := hS ((rmO o k + rmK k) % 14) (Nat.mod_lt _ (by decide))
    have hA : sAt M1 a T := by
      intro j v hj
      have hj7 : j < 7 := (List.getElem?_eq_some_iff.mp hj).1
      rw [e1]; unfold mmset; rw [mset_ne (by omega)]; exact hT j v hj
    have hC : sAt M1 (rmC m o k) T' := by
      intro j v hj
      rw [e1]; unfold mmset; rw [mset_ne (by unfold rmC; omega)]; exact hT' j v hj
    have hcp := s_copy (M := M1) (a := a) (c := rmC m o k) (T := T) (T' := T') (Or.inl (by unfold rmC; omega)) hA
    rw [sset_self hC] at hcp
    have h32 : sset M1 (rmC m o k) (cpS T T') m = some (cO 1 [.ref (m + 1), .int (nI (rmO o k)), .int (nI (rmK k))]) := by
      rw [sset_out (by unfold rmC; omega)]; exact hn3
    refine r_aload1 (pc := 32) dX2_remember_32 ?_
    refine r_aload0 (pc := 33) dX2_remember_33 ?_
    refine r_aload0 (pc := 34) dX2_remember_34 ?_
    refine r_getf (pc := 35) fl_X2_22 dX2_remember_35 hn3 rfl ?_
    refine r_aload0 (pc := 38) dX2_remember_38 ?_
    refine r_getf (pc := 39) fl_X2_18 dX2_remember_39 hn3 rfl ?_
    first | refine n_iadd (pc := 42) dX2_remember_42 ?_ | refine z_iadd (pc := 42) dX2_remember_42 ?_ | refine r_iadd (pc := 42) dX2_remember_42 ?_
    refine n_bipush (pc := 43) 14 (by decide) dX2_remember_43 ?_
    refine n_irem (pc := 45) dX2_remember_45 (by omega) (by omega) (by omega) ?_
    refine r_callV1i (pc := 46) lk_X2_25 dX2_remember_46 hn3 (s_stateAt hn (Nat.mod_lt _ (by decide))) (by decide) (Nat.le_of_ble_eq_true rfl) ⟨Nat.zero_le _, Nat.zero_le _⟩ ?_
    change G mX2_remember 2 (.inl false) 0 0 (tP none (fun Mf => ∃ T', Mf = mmset (sset M (rmC m o k) (cpS T T')) m (rmO o k) (rmK k + 1))) none 0 0 49 [some (.ref m), some (.ref a)] [.ref (rmC m o k), .ref a] M1
    refine r_callS2v (pc := 49) lk_X2_29 dX2_remember_49 hcp (by decide) (Nat.le_of_ble_eq_true rfl) ⟨Nat.zero_le _, Nat.zero_le _⟩ ?_
    refine r_aload0 (pc := 52) dX2_remember_52 ?_
    refine r_dup (pc := 53) dX2_remember_53 rfl ?_
    refine r_getf (pc := 54) fl_X2_18 dX2_remember_54 h32 rfl ?_
    refine n_iconst_1 (pc := 57) dX2_remember_57 ?_
    first | refine n_iadd (pc := 58) dX2_remember_58 ?_ | refine z_iadd (pc := 58) dX2_remember_58 ?_ | refine r_iadd (pc := 58) dX2_remember_58 ?_
    refine r_putfI (pc := 59) fl_X2_18 dX2_remember_59 h32 (Nat.le_of_ble_eq_true rfl) ?_
    refine p_return (pc := 62) false rfl rfl dX2_remember_62 (Nat.zero_le _) (Nat.zero_le _) (Or.inl rfl) ⟨rfl, T', ?_⟩
    show mmset (sset M1 (rmC m o k) (cpS T T')) m (rmO o k) (rmK k + 1) = _
    rw [e1, mm_sset (by unfold rmC; omega)]
  obtain ⟨h1, h2, h3, f, h4, h5⟩ := h
  refine r_aload0 (pc := 0) dX2_remember_0 ?_
  refine r_getf (pc := 1) fl_X2_18 dX2_remember_1 h3 rfl ?_
  refine n_bipush (pc := 4) 14 (by decide) dX2_remember_4 ?_
  refine n_icmp_ne (pc := 6) 32 (by decide) dX2_remember_6 (by omega) (by omega) (fun h9 => ?_) (fun h9 => ?_)
  · exact fin M (by unfold rmO rmK mmset; rw [if_neg h9, if_neg h9, mset_self h3])
  · refine r_aload0 (pc := 9) dX2_remember_9 ?_
    refine r_aload0 (pc := 10) dX2_remember_10 ?_
    refine r_getf (pc := 11) fl_X2_22 dX2_remember_11 h3 rfl ?_
    refine n_iconst_1 (pc := 14) dX2_remember_14 ?_
    first | refine n_iadd (pc := 15) dX2_remember_15 ?_ | refine z_iadd (pc := 15) dX2_remember_15 ?_ | refine r_iadd (pc := 15) dX2_remember_15 ?_
    refine n_bipush (pc := 16) 14 (by decide) dX2_remember_16 ?_
    refine n_irem (pc := 18) dX2_remember_18 (by omega) (by omega) (by omega) ?_
    refine r_putfI (pc := 19) fl_X2_22 dX2_remember_19 h3 (Nat.le_of_ble_eq_true rfl) ?_
    have h6 : mmset M m ((o + 1) % 14) k m = some (cO 1 [.ref (m + 1), .int (nI ((o + 1) % 14)), .int (nI k)]) := mset_same
    refine G_M (M1 := mmset M m ((o + 1) % 14) k) rfl ?_
    refine r_aload0 (pc := 22) dX2_remember_22 ?_
    refine r_dup (pc := 23) dX2_remember_23 rfl ?_
    refine r_getf (pc := 24) fl_X2_18 dX2_remember_24 h6 rfl ?_
    refine n_iconst_1 (pc := 27) dX2_remember_27 ?_
    refine n_isub (pc := 28) dX2_remember_28 (by omega) ?_
    refine r_putfI (pc := 29) fl_X2_18 dX2_remember_29 h6 (Nat.le_of_ble_eq_true rfl) ?_
    refine fin _ ?_
    unfold rmO rmK
    rw [if_pos h9, if_pos h9]
    show mset (mset M m _) m _ = _
    rw [mset_mset, h9]
    rfl
end REM
