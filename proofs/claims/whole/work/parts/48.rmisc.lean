section RMISC
variable {M : Mem} {a : Nat} {f : Nat → Int32} {z : ZS}
theorem s8_canTurn (hM : M a = some (cI 563 f)) (hI : InvR f z) (hZ : ZOK z) {k : Nat} (hk : k < 2147483648) : Spec mX8_canTurn 5 0 0 [.ref a, .int (nI k)] M (some (.int (bI (canT z k)))) M := by
  have hd := hZ.dims
  refine Spec_of [some (.ref a), some (.int (nI k))] (by decide) (Nat.le_of_ble_eq_true rfl) rfl ?_
  refine r_aload0 (pc := 0) dX8_canTurn_0 ?_
  refine r_iload1 (pc := 1) dX8_canTurn_1 ?_
  refine r_callS2i (pc := 2) lk_X8_152 dX8_canTurn_2 (s8_isPlace hM hI hZ) (by decide) (Nat.le_of_ble_eq_true rfl) ⟨Nat.zero_le _, Nat.zero_le _⟩ ?_
  rw [inR_nI hk (by omega)]
  refine b_if_eq (pc := 5) 26 (by decide) dX8_canTurn_5 (fun h1 => ?_) (fun h1 => ?_)
  · refine n_iconst_0 (pc := 26) dX8_canTurn_26 ?_
    exact r_ireturn (pc := 27) false rfl rfl (by decide) dX8_canTurn_27 (Nat.zero_le _) (Nat.zero_le _) (Or.inl rfl) rfl (by unfold canT; rw [h1]; rfl) rfl
  · have h2 := of_decide_eq_true h1
    have hq := hZ.fq h2
    have hh := hZ.h h2
    refine r_aload0 (pc := 8) dX8_canTurn_8 ?_
    refine n_sipush (pc := 9) 451 (by decide) dX8_canTurn_9 ?_
    refine r_aload0 (pc := 12) dX8_canTurn_12 ?_
    refine r_iload1 (pc := 13) dX8_canTurn_13 ?_
    refine r_callS2i (pc := 14) lk_X8_123 dX8_canTurn_14 (s8_firstOf hM hI hZ h2) (by decide) (Nat.le_of_ble_eq_true rfl) ⟨Nat.zero_le _, Nat.zero_le _⟩ ?_
    first | refine n_iadd (pc := 17) dX8_canTurn_17 ?_ | refine z_iadd (pc := 17) dX8_canTurn_17 ?_ | refine r_iadd (pc := 17) dX8_canTurn_17 ?_
    refine n_iald (pc := 18) dX8_canTurn_18 hM (by omega) (by decide) (hI.H h2) ?_
    refine n_if_ne (pc := 19) 26 (by decide) dX8_canTurn_19 (by omega) (fun h3 => ?_) (fun h3 => ?_)
    · refine n_iconst_0 (pc := 26) dX8_canTurn_26 ?_
      exact r_ireturn (pc := 27) false rfl rfl (by decide) dX8_canTurn_27 (Nat.zero_le _) (Nat.zero_le _) (Or.inl rfl) rfl (by unfold canT; rw [h1, decide_eq_false h3]; rfl) rfl
    · refine n_iconst_1 (pc := 22) dX8_canTurn_22 ?_
      refine r_goto (pc := 23) 27 (by decide) dX8_canTurn_23 ?_
      exact r_ireturn (pc := 27) false rfl rfl (by decide) dX8_canTurn_27 (Nat.zero_le _) (Nat.zero_le _) (Or.inl rfl) rfl (by unfold canT; rw [h1, decide_eq_true h3]; rfl) rfl
theorem canS_eq (z : ZS) (j k : Nat) : canS z j k = (decide (j ≠ k) && (canT z j && canT z k)) := by
  unfold canS canT
  cases decide (j < zt z) <;> cases decide (k < zt z) <;> cases decide (j ≠ k) <;> cases decide (zH z j = 0) <;> cases decide (zH z k = 0) <;> rfl
theorem s8_canSwap (hM : M a = some (cI 563 f)) (hI : InvR f z) (hZ : ZOK z) {j k : Nat} (hj : j < 2147483648) (hk : k < 2147483648) : Spec mX8_canSwap 6 0 0 [.ref a, .int (nI j), .int (nI k)] M (some (.int (bI (canS z j k)))) M := by
  rw [canS_eq]
  refine Spec_of [some (.ref a), some (.int (nI j)), some (.int (nI k))] (by decide) (Nat.le_of_ble_eq_true rfl) rfl ?_
  refine r_iload1 (pc := 0) dX8_canSwap_0 ?_
  refine r_iload2 (pc := 1) dX8_canSwap_1 ?_
  refine n_icmp_eq (pc := 2) 25 (by decide) dX8_canSwap_2 (by omega) (by omega) (fun h1 => ?_) (fun h1 => ?_)
  · refine n_iconst_0 (pc := 25) dX8_canSwap_25 ?_
    exact r_ireturn (pc := 26) false rfl rfl (by decide) dX8_canSwap_26 (Nat.zero_le _) (Nat.zero_le _) (Or.inl rfl) rfl (by rw [decide_eq_false (fun q => q h1)]; rfl) rfl
  · refine r_aload0 (pc := 5) dX8_canSwap_5 ?_
    refine r_iload1 (pc := 6) dX8_canSwap_6 ?_
    refine r_callS2i (pc := 7) lk_X8_155 dX8_canSwap_7 (s8_canTurn hM hI hZ hj) (by decide) (Nat.le_of_ble_eq_true rfl) ⟨Nat.zero_le _, Nat.zero_le _⟩ ?_
    refine b_if_eq (pc := 10) 25 (by decide) dX8_canSwap_10 (fun h2 => ?_) (fun h2 => ?_)
    · refine n_iconst_0 (pc := 25) dX8_canSwap_25 ?_
      exact r_ireturn (pc := 26) false rfl rfl (by decide) dX8_canSwap_26 (Nat.zero_le _) (Nat.zero_le _) (Or.inl rfl) rfl (by rw [h2, Bool.false_and, Bool.and_false]; rfl) rfl
    · refine r_aload0 (pc := 13) dX8_canSwap_13 ?_
      refine r_iload2 (pc := 14) dX8_canSwap_14 ?_
      refine r_callS2i (pc := 15) lk_X8_155 dX8_canSwap_15 (s8_canTurn hM hI hZ hk) (by decide) (Nat.le_of_ble_eq_true rfl) ⟨Nat.zero_le _, Nat.zero_le _⟩ ?_
      refine b_if_eq (pc := 18) 25 (by decide) dX8_canSwap_18 (fun h3 => ?_) (fun h3 => ?_)
      · refine n_iconst_0 (pc := 25) dX8_canSwap_25 ?_
        exact r_ireturn (pc := 26) false rfl rfl (by decide) dX8_canSwap_26 (Nat.zero_le _) (Nat.zero_le _) (Or.inl rfl) rfl (by rw [h3, Bool.and_false, Bool.and_false]; rfl) rfl
      · refine n_iconst_1 (pc := 21) dX8_canSwap_21 ?_
        refine r_goto (pc := 22) 26 (by decide) dX8_canSwap_22 ?_
        exact r_ireturn (pc := 26) false rfl rfl (by decide) dX8_canSwap_26 (Nat.zero_le _) (Nat.zero_le _) (Or.inl rfl) rfl (by rw [h2, h3, decide_eq_true h1]; rfl) rfl
theorem sq_in {z : ZS} {x y : Nat} (hx : x < zc z) (hy : y < zr z) : zc z * y + x < zq z := by
  have h4 : zc z * y + zc z ≤ zc z * zr z := by rw [← Nat.mul_succ]; exact Nat.mul_le_mul_left _ hy
  have h5 : zq z = zc z * zr z := rfl
  omega
theorem s8_canFlip (hM : M a = some (cI 563 f)) (hI : InvR f z) (hZ : ZOK z) {x y : Nat} (hx : x < 2147483648) (hy : y < 2147483648) : Spec mX8_canFlip 4 0 0 [.ref a, .int (nI x), .int (nI y)] M (some (.int (bI (flA z x y).isSome))) M := by
  have hd := hZ.dims
  refine Spec_of [some (.ref a), some (.int (nI x)), some (.int (nI y))] (by decide) (Nat.le_of_ble_eq_true rfl) rfl ?_
  refine r_aload0 (pc := 0) dX8_canFlip_0 ?_
  refine r_iload1 (pc := 1) dX8_canFlip_1 ?_
  refine r_iload2 (pc := 2) dX8_canFlip_2 ?_
  refine r_callS3i (pc := 3) lk_X8_158 dX8_canFlip_3 (s8_isSquare hM hI hZ) (by decide) (Nat.le_of_ble_eq_true rfl) ⟨Nat.zero_le _, Nat.zero_le _⟩ ?_
  rw [inR_nI hx (by omega), inR_nI hy (by omega)]
  refine b_if_eq (pc := 6) 28 (by decide) dX8_canFlip_6 (fun h1 => ?_) (fun h1 => ?_)
  · refine n_iconst_0 (pc := 28) dX8_canFlip_28 ?_
    exact r_ireturn (pc := 29) false rfl rfl (by decide) dX8_canFlip_29 (Nat.zero_le _) (Nat.zero_le _) (Or.inl rfl) rfl (by rw [show flA z x y = none from if_neg (fun q => by simp [q.1, q.2] at h1)]; rfl) rfl
  · have h3 : x < zc z ∧ y < zr z := by simpa using h1
    have hq := sq_in h3.1 h3.2
    have ef : flA z x y = canF z (y * zc z + x) := if_pos h3
    have em : zc z * y + x = y * zc z + x := by rw [Nat.mul_comm]
    refine r_aload0 (pc := 9) dX8_canFlip_9 ?_
    refine r_aload0 (pc := 10) dX8_canFlip_10 ?_
    refine r_callS1i (pc := 11) lk_X8_40 dX8_canFlip_11 (s8_wide hM hI) (by decide) (Nat.le_of_ble_eq_true rfl) ⟨Nat.zero_le _, Nat.zero_le _⟩ ?_
    refine r_iload2 (pc := 14) dX8_canFlip_14 ?_
    first | refine n_imul (pc := 15) dX8_canFlip_15 ?_ | refine z_imul (pc := 15) dX8_canFlip_15 ?_ | refine r_imul (pc := 15) dX8_canFlip_15 ?_
    refine r_iload1 (pc := 16) dX8_canFlip_16 ?_
    first | refine n_iadd (pc := 17) dX8_canFlip_17 ?_ | refine z_iadd (pc := 17) dX8_canFlip_17 ?_ | refine r_iadd (pc := 17) dX8_canFlip_17 ?_
    refine r_callS2i (pc := 18) lk_X8_119 dX8_canFlip_18 (s8_isFlip hM hI hZ hq) (by decide) (Nat.le_of_ble_eq_true rfl) ⟨Nat.zero_le _, Nat.zero_le _⟩ ?_
    rw [em, ← ef]
    refine b_if_eq (pc := 21) 28 (by decide) dX8_canFlip_21 (fun h2 => ?_) (fun h2 => ?_)
    · refine n_iconst_0 (pc := 28) dX8_canFlip_28 ?_
      exact r_ireturn (pc := 29) false rfl rfl (by decide) dX8_canFlip_29 (Nat.zero_le _) (Nat.zero_le _) (Or.inl rfl) rfl (by rw [h2]; rfl) rfl
    · refine n_iconst_1 (pc := 24) dX8_canFlip_24 ?_
      refine r_goto (pc := 25) 29 (by decide) dX8_canFlip_25 ?_
      exact r_ireturn (pc := 29) false rfl rfl (by decide) dX8_canFlip_29 (Nat.zero_le _) (Nat.zero_le _) (Or.inl rfl) rfl (by rw [h2]; rfl) rfl
set_option maxRecDepth 20000 in
theorem s8_heldMany (hM : M a = some (cI 563 f)) (hI : InvR f z) (hZ : ZOK z) : Spec mX8_heldMany 3 0 0 [.ref a] M (some (.int (nI (zM (zH z) (zt z))))) M := by
  have hd := hZ.dims
  refine Spec_of [some (.ref a), none, none] (by decide) (Nat.le_of_ble_eq_true rfl) rfl ?_
  refine n_iconst_0 (pc := 0) dX8_heldMany_0 ?_
  refine r_istore1 (pc := 1) dX8_heldMany_1 rfl ?_
  refine n_iconst_0 (pc := 2) dX8_heldMany_2 ?_
  refine r_istore2 (pc := 3) dX8_heldMany_3 rfl ?_
  refine up_to (N := zq z) (k := 0) (fun k => G mX8_heldMany 3 (.inl false) 0 0 (dT (some (.int (nI (zM (zH z) (zt z))))) M) none 0 0 4 [some (.ref a), some (.int (nI (zM (zH z) (cnt z k)))), some (.int (nI k))] [] (M)) ?_ (fun k hk ih => ?_) (Nat.zero_le _)
  · rw [cnt_end hZ]
    refine r_iload2 (pc := 4) dX8_heldMany_4 ?_
    refine r_aload0 (pc := 5) dX8_heldMany_5 ?_
    refine r_callS1i (pc := 6) lk_X8_47 dX8_heldMany_6 (s8_squares hM hI) (by decide) (Nat.le_of_ble_eq_true rfl) ⟨Nat.zero_le _, Nat.zero_le _⟩ ?_
    refine n_icmp_ge (pc := 9) 41 (by decide) dX8_heldMany_9 (by omega) (by omega) (fun hc9 => ?_) (fun hc9 => absurd hc9 (by omega))
    refine r_iload1 (pc := 41) dX8_heldMany_41 ?_
    exact r_ireturn (pc := 42) false rfl rfl rfl dX8_heldMany_42 (Nat.zero_le _) (Nat.zero_le _) (Or.inl rfl) rfl rfl rfl
  · rcases sq_cases hZ k with ⟨j, hj, ej, c1, c2⟩ | ⟨hn, c2⟩
    · subst ej
      have hlp := lz_pos z j
      rw [c2] at ih
      rw [c1]
      refine r_iload2 (pc := 4) dX8_heldMany_4 ?_
      refine r_aload0 (pc := 5) dX8_heldMany_5 ?_
      refine r_callS1i (pc := 6) lk_X8_47 dX8_heldMany_6 (s8_squares hM hI) (by decide) (Nat.le_of_ble_eq_true rfl) ⟨Nat.zero_le _, Nat.zero_le _⟩ ?_
      refine n_icmp_ge (pc := 9) 41 (by decide) dX8_heldMany_9 (by omega) (by omega) (fun hc9 => absurd hc9 (by omega)) (fun hc9 => ?_)
      refine r_iload1 (pc := 12) dX8_heldMany_12 ?_
      refine r_aload0 (pc := 13) dX8_heldMany_13 ?_
      refine n_bipush (pc := 14) 115 (by decide) dX8_heldMany_14 ?_
      refine r_iload2 (pc := 16) dX8_heldMany_16 ?_
      first | refine n_iadd (pc := 17) dX8_heldMany_17 ?_ | refine z_iadd (pc := 17) dX8_heldMany_17 ?_ | refine r_iadd (pc := 17) dX8_heldMany_17 ?_
      refine n_iald (pc := 18) dX8_heldMany_18 hM (by omega) (by decide) (hI.L hj) ?_
      refine n_if_le (pc := 19) 32 (by decide) dX8_heldMany_19 (by omega) (fun h9 => absurd h9 (by omega)) (fun _ => ?_)
      refine r_aload0 (pc := 22) dX8_heldMany_22 ?_
      refine n_sipush (pc := 23) 451 (by decide) dX8_heldMany_23 ?_
      refine r_iload2 (pc := 26) dX8_heldMany_26 ?_
      first | refine n_iadd (pc := 27) dX8_heldMany_27 ?_ | refine z_iadd (pc := 27) dX8_heldMany_27 ?_ | refine r_iadd (pc := 27) dX8_heldMany_27 ?_
      refine n_iald (pc := 28) dX8_heldMany_28 hM (by omega) (by decide) (hI.H hj) ?_
      refine r_goto (pc := 29) 33 (by decide) dX8_heldMany_29 ?_
      first | refine n_iadd (pc := 33) dX8_heldMany_33 ?_ | refine z_iadd (pc := 33) dX8_heldMany_33 ?_ | refine r_iadd (pc := 33) dX8_heldMany_33 ?_
      refine r_istore1 (pc := 34) dX8_heldMany_34 rfl ?_
      refine n_iinc2 (pc := 35) dX8_heldMany_35 rfl ?_
      refine r_goto (pc := 38) 4 (by decide) dX8_heldMany_38 ?_
      exact ih
    · rw [c2] at ih
      refine r_iload2 (pc := 4) dX8_heldMany_4 ?_
      refine r_aload0 (pc := 5) dX8_heldMany_5 ?_
      refine r_callS1i (pc := 6) lk_X8_47 dX8_heldMany_6 (s8_squares hM hI) (by decide) (Nat.le_of_ble_eq_true rfl) ⟨Nat.zero_le _, Nat.zero_le _⟩ ?_
      refine n_icmp_ge (pc := 9) 41 (by decide) dX8_heldMany_9 (by omega) (by omega) (fun hc9 => absurd hc9 (by omega)) (fun hc9 => ?_)
      refine r_iload1 (pc := 12) dX8_heldMany_12 ?_
      refine r_aload0 (pc := 13) dX8_heldMany_13 ?_
      refine n_bipush (pc := 14) 115 (by decide) dX8_heldMany_14 ?_
      refine r_iload2 (pc := 16) dX8_heldMany_16 ?_
      first | refine n_iadd (pc := 17) dX8_heldMany_17 ?_ | refine z_iadd (pc := 17) dX8_heldMany_17 ?_ | refine r_iadd (pc := 17) dX8_heldMany_17 ?_
      refine n_iald (pc := 18) dX8_heldMany_18 hM (by omega) (by decide) (hI.Z hk hn) ?_
      refine n_if_le (pc := 19) 32 (by decide) dX8_heldMany_19 (by omega) (fun _ => ?_) (fun h9 => absurd h9 (by omega))
      refine n_iconst_0 (pc := 32) dX8_heldMany_32 ?_
      first | refine n_iadd (pc := 33) dX8_heldMany_33 ?_ | refine z_iadd (pc := 33) dX8_heldMany_33 ?_ | refine r_iadd (pc := 33) dX8_heldMany_33 ?_
      refine r_istore1 (pc := 34) dX8_heldMany_34 rfl ?_
      refine n_iinc2 (pc := 35) dX8_heldMany_35 rfl ?_
      refine r_goto (pc := 38) 4 (by decide) dX8_heldMany_38 ?_
      exact ih
theorem s8_holdOn (hI : InvR f z) (hZ : ZOK z) {k : Nat} (hk : k < zt z) {v : Bool} : SpecP mX8_holdOn 4 0 0 [.ref a, .int (nI k), .int (bI v)] (rset M a f) (tR (some (.int (nI (zM (zH (holdZ z k (if v then 1 else 0))) (zt z))))) M a (holdZ z k (if v then 1 else 0))) := by
  have hd := hZ.dims
  have hq := hZ.fq hk
  refine Spec_of [some (.ref a), some (.int (nI k)), some (.int (bI v))] (by decide) (Nat.le_of_ble_eq_true rfl) rfl ?_
  have fin : ∀ w, w = (if v then 1 else 0) →
    G mX8_holdOn 4 (.inl false) 0 0 (tR (some (.int (nI (zM (zH (holdZ z k (if v then 1 else 0))) (zt z))))) M a (holdZ z k (if v then 1 else 0))) none 0 0 19 [some (.ref a), some (.int (nI k)), some (.int (bI v))] [.int (nI w), .int (nI (451 + zF z k)), .ref a] (rset M a f)
    := by
    intro w e
    rw [← e]
    refine n_iast (pc := 19) dX8_holdOn_19 mset_same (by omega) (by decide) ?_
    refine G_M mset_mset ?_
    have h1 := hI.setH hZ (v := w) hk
    have hZ1 : ZOK (holdZ z k w) := holdZ_ok hZ k (by rw [e]; split <;> omega)
    refine r_aload0 (pc := 20) dX8_holdOn_20 ?_
    refine r_callS1i (pc := 21) lk_X8_149 dX8_holdOn_21 (s8_heldMany (z := holdZ z k w) mset_same h1 hZ1) (by decide) (Nat.le_of_ble_eq_true rfl) ⟨Nat.zero_le _, Nat.zero_le _⟩ ?_
    exact p_ireturn (pc := 24) false rfl rfl rfl dX8_holdOn_24 (Nat.zero_le _) (Nat.zero_le _) (Or.inl rfl) ⟨rfl, _, h1, rfl⟩
  refine r_aload0 (pc := 0) dX8_holdOn_0 ?_
  refine n_sipush (pc := 1) 451 (by decide) dX8_holdOn_1 ?_
  refine r_aload0 (pc := 4) dX8_holdOn_4 ?_
  refine r_iload1 (pc := 5) dX8_holdOn_5 ?_
  refine r_callS2i (pc := 6) lk_X8_123 dX8_holdOn_6 (s8_firstOf mset_same hI hZ hk) (by decide) (Nat.le_of_ble_eq_true rfl) ⟨Nat.zero_le _, Nat.zero_le _⟩ ?_
  first | refine n_iadd (pc := 9) dX8_holdOn_9 ?_ | refine z_iadd (pc := 9) dX8_holdOn_9 ?_ | refine r_iadd (pc := 9) dX8_holdOn_9 ?_
  refine r_iload2 (pc := 10) dX8_holdOn_10 ?_
  refine b_if_eq (pc := 11) 18 (by decide) dX8_holdOn_11 (fun h1 => ?_) (fun h1 => ?_)
  · refine n_iconst_0 (pc := 18) dX8_holdOn_18 ?_
    exact fin 0 (by rw [h1]; rfl)
  · refine n_iconst_1 (pc := 14) dX8_holdOn_14 ?_
    refine r_goto (pc := 15) 19 (by decide) dX8_holdOn_15 ?_
    exact fin 1 (by rw [h1]; rfl)
theorem s8_greyOn (hI : InvR f z) (hZ : ZOK z) {x y g : Nat} (hx : x < zc z) (hy : y < zr z) : SpecP mX8_greyOn 2 0 0 [.ref a, .int (nI x), .int (nI y), .int (nI g)] (rset M a f) (tR (some (.int (nI (zG z (y * zc z + x))))) M a (greyZ z (y * zc z + x) g)) := by
  have hd := hZ.dims
  have hq := sq_in hx hy
  have em : y * zc z + x = zc z * y + x := by rw [Nat.mul_comm]
  rw [em]
  have e3 : 3 + zc z * y + x = 3 + (zc z * y + x) := Nat.add_assoc _ _ _
  refine Spec_of [some (.ref a), some (.int (nI x)), some (.int (nI y)), some (.int (nI g)), none, none] (by decide) (Nat.le_of_ble_eq_true rfl) rfl ?_
  refine n_iconst_3 (pc := 0) dX8_greyOn_0 ?_
  refine r_aload0 (pc := 1) dX8_greyOn_1 ?_
  refine r_callS1i (pc := 2) lk_X8_40 dX8_greyOn_2 (s8_wide mset_same hI) (by decide) (Nat.le_of_ble_eq_true rfl) ⟨Nat.zero_le _, Nat.zero_le _⟩ ?_
  refine r_iload2 (pc := 5) dX8_greyOn_5 ?_
  first | refine n_imul (pc := 6) dX8_greyOn_6 ?_ | refine z_imul (pc := 6) dX8_greyOn_6 ?_ | refine r_imul (pc := 6) dX8_greyOn_6 ?_
  first | refine n_iadd (pc := 7) dX8_greyOn_7 ?_ | refine z_iadd (pc := 7) dX8_greyOn_7 ?_ | refine r_iadd (pc := 7) dX8_greyOn_7 ?_
  refine r_iload1 (pc := 8) dX8_greyOn_8 ?_
  first | refine n_iadd (pc := 9) dX8_greyOn_9 ?_ | refine z_iadd (pc := 9) dX8_greyOn_9 ?_ | refine r_iadd (pc := 9) dX8_greyOn_9 ?_
  rw [e3]
  refine r_istore4 (pc := 10) dX8_greyOn_10 rfl ?_
  refine r_aload0 (pc := 12) dX8_greyOn_12 ?_
  refine r_iload4 (pc := 13) dX8_greyOn_13 ?_
  refine n_iald (pc := 15) dX8_greyOn_15 mset_same (by omega) (by decide) (hI.G hq) ?_
  refine r_istore5 (pc := 16) dX8_greyOn_16 rfl ?_
  refine r_aload0 (pc := 18) dX8_greyOn_18 ?_
  refine r_iload4 (pc := 19) dX8_greyOn_19 ?_
  refine r_iload3 (pc := 21) dX8_greyOn_21 ?_
  refine n_iast (pc := 22) dX8_greyOn_22 mset_same (by omega) (by decide) ?_
  refine G_M mset_mset ?_
  refine r_iload5 (pc := 23) dX8_greyOn_23 ?_
  exact p_ireturn (pc := 25) false rfl rfl rfl dX8_greyOn_25 (Nat.zero_le _) (Nat.zero_le _) (Or.inl rfl) ⟨rfl, _, hI.setG hZ hq, rfl⟩
theorem InvR.grey0 {f : Nat → Int32} {z : ZS} {g : Nat → Nat} (h : InvR f z) (hg : ∀ s, s < zq z → g s = zG z s) : InvR f (zset z 0 g) :=
  ⟨h.1, fun s hs => by show f (3 + s) = nI (g s); rw [hg s hs]; exact h.G hs, h.2.2⟩
set_option maxRecDepth 20000 in
theorem s8_fadeOn (hI : InvR f z) (hZ : ZOK z) {p c : Nat} (hp : p ≤ 99) (hc : c ≤ 99) : SpecP mX8_fadeOn 3 0 0 [.ref a, .int (nI p), .int (nI c)] (rset M a f) (tR none M a (fadeZ z p c)) := by
  have hd := hZ.dims
  refine Spec_of [some (.ref a), some (.int (nI p)), some (.int (nI c)), none, none, none] (by decide) (Nat.le_of_ble_eq_true rfl) rfl ?_
  refine r_aload0 (pc := 0) dX8_fadeOn_0 ?_
  refine r_callS1i (pc := 1) lk_X8_40 dX8_fadeOn_1 (s8_wide mset_same hI) (by decide) (Nat.le_of_ble_eq_true rfl) ⟨Nat.zero_le _, Nat.zero_le _⟩ ?_
  refine r_aload0 (pc := 4) dX8_fadeOn_4 ?_
  refine r_callS1i (pc := 5) lk_X8_44 dX8_fadeOn_5 (s8_high mset_same hI) (by decide) (Nat.le_of_ble_eq_true rfl) ⟨Nat.zero_le _, Nat.zero_le _⟩ ?_
  first | refine n_iadd (pc := 8) dX8_fadeOn_8 ?_ | refine z_iadd (pc := 8) dX8_fadeOn_8 ?_ | refine r_iadd (pc := 8) dX8_fadeOn_8 ?_
  refine n_iconst_2 (pc := 9) dX8_fadeOn_9 ?_
  refine n_isub (pc := 10) dX8_fadeOn_10 (by omega) ?_
  refine r_istore3 (pc := 11) dX8_fadeOn_11 rfl ?_
  refine n_iconst_0 (pc := 12) dX8_fadeOn_12 ?_
  refine r_istore4 (pc := 13) dX8_fadeOn_13 rfl ?_
  refine up_to (N := zq z) (k := 0) (fun i => ∀ f a5, InvR f (zset z 0 (fun s => if s < i then fadV z p c s else zG z s)) →
    G mX8_fadeOn 3 (.inl false) 0 0 (tR none M a (fadeZ z p c)) none 0 0 15 [some (.ref a), some (.int (nI p)), some (.int (nI c)), some (.int (nI (zc z + zr z - 2))), some (.int (nI i)), a5] [] (rset M a f)
    ) (fun f a5 hI => ?_) (fun i hi ih f a5 hI => ?_) (Nat.zero_le _) f none (hI.grey0 (fun s _ => if_neg (Nat.not_lt_zero s)))
  · have hq : Spec mX8_squares 2 0 0 [.ref a] (rset M a f) (some (.int (nI (zq z)))) (rset M a f) := by
        have h := s8_squares (M := rset M a f) (a := a) mset_same hI
        exact h
    refine r_iload4 (pc := 15) dX8_fadeOn_15 ?_
    refine r_aload0 (pc := 17) dX8_fadeOn_17 ?_
    refine r_callS1i (pc := 18) lk_X8_47 dX8_fadeOn_18 hq (by decide) (Nat.le_of_ble_eq_true rfl) ⟨Nat.zero_le _, Nat.zero_le _⟩ ?_
    refine n_icmp_ge (pc := 21) 66 (by decide) dX8_fadeOn_21 (by omega) (by omega) (fun hc21 => ?_) (fun hc21 => absurd hc21 (by omega))
    refine p_return (pc := 66) false rfl rfl dX8_fadeOn_66 (Nat.zero_le _) (Nat.zero_le _) (Or.inl rfl) ⟨rfl, f, ?_, rfl⟩
    refine InvR.grey0 (z := zset z 0 (fun s => if s < zq z then fadV z p c s else zG z s)) (g := fadV z p c) hI (fun s hs => ?_) |> fun h => ⟨h.1, h.2⟩
    have hs : s < zq z := hs
    show _ = if s < zq z then fadV z p c s else zG z s
    rw [if_pos hs]
  · obtain ⟨f1, f2⟩ := fad_le hZ hp hc hi
    have hq : Spec mX8_squares 2 0 0 [.ref a] (rset M a f) (some (.int (nI (zq z)))) (rset M a f) := by
        have h := s8_squares (M := rset M a f) (a := a) mset_same hI
        exact h
    have hw : Spec mX8_wide 1 0 0 [.ref a] (rset M a f) (some (.int (nI (zc z)))) (rset M a f) := by
        have h := s8_wide (M := rset M a f) (a := a) mset_same hI
        exact h
    have hZi : ZOK (zset z 0 (fun s => if s < i then fadV z p c s else zG z s)) := hZ.setG (fun s hs => by
      split
      · obtain ⟨q1, q2⟩ := fad_le hZ hp hc hs
        unfold fadV
        exact Nat.div_le_of_le_mul (by rw [Nat.mul_comm (zc z + zr z - 2) 99]; exact q2)
      · exact hZ.g hs)
    refine G_fgt 5 ?_
    refine r_iload4 (pc := 15) dX8_fadeOn_15 ?_
    refine r_aload0 (pc := 17) dX8_fadeOn_17 ?_
    refine r_callS1i (pc := 18) lk_X8_47 dX8_fadeOn_18 hq (by decide) (Nat.le_of_ble_eq_true rfl) ⟨Nat.zero_le _, Nat.zero_le _⟩ ?_
    refine n_icmp_ge (pc := 21) 66 (by decide) dX8_fadeOn_21 (by omega) (by omega) (fun hc21 => absurd hc21 (by omega)) (fun hc21 => ?_)
    refine r_iload4 (pc := 24) dX8_fadeOn_24 ?_
    refine r_aload0 (pc := 26) dX8_fadeOn_26 ?_
    refine r_callS1i (pc := 27) lk_X8_40 dX8_fadeOn_27 hw (by decide) (Nat.le_of_ble_eq_true rfl) ⟨Nat.zero_le _, Nat.zero_le _⟩ ?_
    refine n_irem (pc := 30) dX8_fadeOn_30 (by omega) (by omega) (by omega) ?_
    refine r_iload4 (pc := 31) dX8_fadeOn_31 ?_
    refine r_aload0 (pc := 33) dX8_fadeOn_33 ?_
    refine r_callS1i (pc := 34) lk_X8_40 dX8_fadeOn_34 hw (by decide) (Nat.le_of_ble_eq_true rfl) ⟨Nat.zero_le _, Nat.zero_le _⟩ ?_
    refine n_idiv (pc := 37) dX8_fadeOn_37 (by omega) (by omega) (by omega) ?_
    first | refine n_iadd (pc := 38) dX8_fadeOn_38 ?_ | refine z_iadd (pc := 38) dX8_fadeOn_38 ?_ | refine r_iadd (pc := 38) dX8_fadeOn_38 ?_
    refine r_istore5 (pc := 39) dX8_fadeOn_39 rfl ?_
    refine r_aload0 (pc := 41) dX8_fadeOn_41 ?_
    refine n_iconst_3 (pc := 42) dX8_fadeOn_42 ?_
    refine r_iload4 (pc := 43) dX8_fadeOn_43 ?_
    first | refine n_iadd (pc := 45) dX8_fadeOn_45 ?_ | refine z_iadd (pc := 45) dX8_fadeOn_45 ?_ | refine r_iadd (pc := 45) dX8_fadeOn_45 ?_
    refine r_iload1 (pc := 46) dX8_fadeOn_46 ?_
    refine r_iload3 (pc := 47) dX8_fadeOn_47 ?_
    refine r_iload5 (pc := 48) dX8_fadeOn_48 ?_
    refine n_isub (pc := 50) dX8_fadeOn_50 (by omega) ?_
    first | refine n_imul (pc := 51) dX8_fadeOn_51 ?_ | refine z_imul (pc := 51) dX8_fadeOn_51 ?_ | refine r_imul (pc := 51) dX8_fadeOn_51 ?_
    refine r_iload2 (pc := 52) dX8_fadeOn_52 ?_
    refine r_iload5 (pc := 53) dX8_fadeOn_53 ?_
    first | refine n_imul (pc := 55) dX8_fadeOn_55 ?_ | refine z_imul (pc := 55) dX8_fadeOn_55 ?_ | refine r_imul (pc := 55) dX8_fadeOn_55 ?_
    first | refine n_iadd (pc := 56) dX8_fadeOn_56 ?_ | refine z_iadd (pc := 56) dX8_fadeOn_56 ?_ | refine r_iadd (pc := 56) dX8_fadeOn_56 ?_
    refine r_iload3 (pc := 57) dX8_fadeOn_57 ?_
    refine n_idiv (pc := 58) dX8_fadeOn_58 (by omega) (by omega) (by omega) ?_
    refine n_iast (pc := 59) dX8_fadeOn_59 mset_same (by omega) (by decide) ?_
    refine G_M mset_mset ?_
    refine n_iinc4 (pc := 60) dX8_fadeOn_60 rfl ?_
    refine r_goto (pc := 63) 15 (by decide) dX8_fadeOn_63 ?_
    refine ih _ _ ?_
    have h1 := hI.setG hZi (i := i) (v := fadV z p c i) hi
    refine InvR.grey0 (z := zset (zset z 0 (fun s => if s < i then fadV z p c s else zG z s)) 0 (ups (fun s => if s < i then fadV z p c s else zG z s) i (fadV z p c i))) (g := fun s => if s < i + 1 then fadV z p c s else zG z s) h1 (fun s hs => ?_) |> fun h => ⟨h.1, h.2⟩
    show (if s < i + 1 then fadV z p c s else zG z s) = ups (fun s => if s < i then fadV z p c s else zG z s) i (fadV z p c i) s
    by_cases e : s = i
    · rw [e, ups_same, if_pos (by omega)]
    · rw [ups_ne e]
      by_cases h9 : s < i
      · rw [if_pos h9, if_pos (by omega)]
      · rw [if_neg h9, if_neg (by omega)]
theorem s8_change (hI : InvR f z) (hZ : ZOK z) {n : Nat} {g : Int} (hv : VG z n g) : SpecP mX8_change 8 0 0 [.ref a, .int (nI n)] (rset M a f) (tR none M a (doZ z n)) := by
  have hd := hZ.dims
  refine Spec_of [some (.ref a), some (.int (nI n)), none] (by decide) (Nat.le_of_ble_eq_true rfl) rfl ?_
  rcases hv with ⟨h1, h2⟩ | ⟨j, k, h1, h2, h3, h4⟩ | ⟨i, l, h1, h2, h3, h4⟩
  · rw [doZ_turn (by omega)]
    refine r_iload1 (pc := 0) dX8_change_0 ?_
    refine n_sipush (pc := 1) 10000 (by decide) dX8_change_1 ?_
    refine n_irem (pc := 4) dX8_change_4 (by omega) (by omega) (by omega) ?_
    refine r_istore2 (pc := 5) dX8_change_5 rfl ?_
    refine r_iload1 (pc := 6) dX8_change_6 ?_
    refine n_sipush (pc := 7) 10000 (by decide) dX8_change_7 ?_
    refine n_icmp_ge (pc := 10) 26 (by decide) dX8_change_10 (by omega) (by omega) (fun hc10 => absurd hc10 (by omega)) (fun hc10 => ?_)
    rw [show n % 10000 = n by omega]
    refine r_aload0 (pc := 13) dX8_change_13 ?_
    refine r_aload0 (pc := 14) dX8_change_14 ?_
    refine r_iload2 (pc := 15) dX8_change_15 ?_
    refine r_callS2i (pc := 16) lk_X8_123 dX8_change_16 (s8_firstOf mset_same hI hZ h1) (by decide) (Nat.le_of_ble_eq_true rfl) ⟨Nat.zero_le _, Nat.zero_le _⟩ ?_
    refine r_callS2x (pc := 19) lk_X8_126 dX8_change_19 (s8_turnOn hI hZ h1)  (by decide) (Nat.le_of_ble_eq_true rfl) ⟨Nat.zero_le _, Nat.zero_le _⟩ (fun M9 h9 => ?_)
    obtain ⟨f', hI', rfl⟩ := h9
    refine r_pop (pc := 22) dX8_change_22 rfl ?_
    refine r_goto (pc := 23) 63 (by decide) dX8_change_23 ?_
    exact p_return (pc := 63) false rfl rfl dX8_change_63 (Nat.zero_le _) (Nat.zero_le _) (Or.inl rfl) ⟨rfl, f', hI', rfl⟩
  · subst h3
    rw [doZ_swap (by omega) (by omega)]
    refine r_iload1 (pc := 0) dX8_change_0 ?_
    refine n_sipush (pc := 1) 10000 (by decide) dX8_change_1 ?_
    refine n_irem (pc := 4) dX8_change_4 (by omega) (by omega) (by omega) ?_
    refine r_istore2 (pc := 5) dX8_change_5 rfl ?_
    refine r_iload1 (pc := 6) dX8_change_6 ?_
    refine n_sipush (pc := 7) 10000 (by decide) dX8_change_7 ?_
    refine n_icmp_ge (pc := 10) 26 (by decide) dX8_change_10 (by omega) (by omega) (fun hc10 => ?_) (fun hc10 => absurd hc10 (by omega))
    refine r_iload1 (pc := 26) dX8_change_26 ?_
    refine n_sipush (pc := 27) 20000 (by decide) dX8_change_27 ?_
    refine n_icmp_ge (pc := 30) 57 (by decide) dX8_change_30 (by omega) (by omega) (fun hc30 => absurd hc30 (by omega)) (fun hc30 => ?_)
    refine r_aload0 (pc := 33) dX8_change_33 ?_
    refine r_aload0 (pc := 34) dX8_change_34 ?_
    refine r_iload2 (pc := 35) dX8_change_35 ?_
    refine n_bipush (pc := 36) 100 (by decide) dX8_change_36 ?_
    refine n_idiv (pc := 38) dX8_change_38 (by omega) (by omega) (by omega) ?_
    rw [show (10000 + 100 * j + k) % 10000 / 100 = j by omega]
    refine r_callS2i (pc := 39) lk_X8_123 dX8_change_39 (s8_firstOf mset_same hI hZ (k := j) (by omega)) (by decide) (Nat.le_of_ble_eq_true rfl) ⟨Nat.zero_le _, Nat.zero_le _⟩ ?_
    refine r_aload0 (pc := 42) dX8_change_42 ?_
    refine r_iload2 (pc := 43) dX8_change_43 ?_
    refine n_bipush (pc := 44) 100 (by decide) dX8_change_44 ?_
    refine n_irem (pc := 46) dX8_change_46 (by omega) (by omega) (by omega) ?_
    rw [show (10000 + 100 * j + k) % 10000 % 100 = k by omega]
    refine r_callS2i (pc := 47) lk_X8_123 dX8_change_47 (s8_firstOf mset_same hI hZ h2) (by decide) (Nat.le_of_ble_eq_true rfl) ⟨Nat.zero_le _, Nat.zero_le _⟩ ?_
    refine r_callS3x (pc := 50) lk_X8_129 dX8_change_50 (s8_swapOn hI hZ (j := j) (by omega) h2 (by omega))  (by decide) (Nat.le_of_ble_eq_true rfl) ⟨Nat.zero_le _, Nat.zero_le _⟩ (fun M9 h9 => ?_)
    obtain ⟨f', hI', rfl⟩ := h9
    refine r_pop (pc := 53) dX8_change_53 rfl ?_
    refine r_goto (pc := 54) 63 (by decide) dX8_change_54 ?_
    exact p_return (pc := 63) false rfl rfl dX8_change_63 (Nat.zero_le _) (Nat.zero_le _) (Or.inl rfl) ⟨rfl, f', hI', rfl⟩
  · subst h3
    have hq := hZ.fq h1
    rw [doZ_flip hZ h1 h2]
    refine r_iload1 (pc := 0) dX8_change_0 ?_
    refine n_sipush (pc := 1) 10000 (by decide) dX8_change_1 ?_
    refine n_irem (pc := 4) dX8_change_4 (by omega) (by omega) (by omega) ?_
    refine r_istore2 (pc := 5) dX8_change_5 rfl ?_
    refine r_iload1 (pc := 6) dX8_change_6 ?_
    refine n_sipush (pc := 7) 10000 (by decide) dX8_change_7 ?_
    refine n_icmp_ge (pc := 10) 26 (by decide) dX8_change_10 (by omega) (by omega) (fun hc10 => ?_) (fun hc10 => absurd hc10 (by omega))
    refine r_iload1 (pc := 26) dX8_change_26 ?_
    refine n_sipush (pc := 27) 20000 (by decide) dX8_change_27 ?_
    refine n_icmp_ge (pc := 30) 57 (by decide) dX8_change_30 (by omega) (by omega) (fun hc30 => ?_) (fun hc30 => absurd hc30 (by omega))
    rw [show (20000 + zF z i) % 10000 = zF z i by omega]
    refine r_aload0 (pc := 57) dX8_change_57 ?_
    refine r_iload2 (pc := 58) dX8_change_58 ?_
    refine r_callS2x (pc := 59) lk_X8_132 dX8_change_59 (s8_flipOn hI hZ h1 h2)  (by decide) (Nat.le_of_ble_eq_true rfl) ⟨Nat.zero_le _, Nat.zero_le _⟩ (fun M9 h9 => ?_)
    obtain ⟨f', hI', rfl⟩ := h9
    refine r_pop (pc := 62) dX8_change_62 rfl ?_
    exact p_return (pc := 63) false rfl rfl dX8_change_63 (Nat.zero_le _) (Nat.zero_le _) (Or.inl rfl) ⟨rfl, f', hI', rfl⟩
end RMISC
