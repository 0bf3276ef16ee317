theorem up_loop {N : Nat} (P : Nat → Prop) (hend : P N) (hstep : ∀ k, k < N → P (k + 1) → P k) : ∀ m k, k + m = N → P k := by
  intro m
  induction m with
  | zero => intro k h; rw [show k = N by omega]; exact hend
  | succ m ih => intro k h; exact hstep k (by omega) (ih (k + 1) (by omega))
theorem up_to {N : Nat} (P : Nat → Prop) (hend : P N) (hstep : ∀ k, k < N → P (k + 1) → P k) {k : Nat} (h : k ≤ N) : P k := up_loop P hend hstep (N - k) k (by omega)
theorem part_lt {z : ZS} (h : ZOK z) {k l : Nat} (hp : part z k = some l) : l < zt z := ((part_spec h).mp hp).1
theorem part_F {z : ZS} (h : ZOK z) {k l : Nat} (hp : part z k = some l) : zF z l = stt z k ∧ al z l = al z k ∧ (al z k = false → zF z k % zc z ≠ zc z - 1) := by
  have h1 := ((part_spec h).mp hp).2
  simp only [pkB, Bool.and_eq_true, Bool.or_eq_true, decide_eq_true_eq, beq_iff_eq] at h1
  refine ⟨h1.1.1, h1.1.2, fun h2 => ?_⟩
  rcases h1.2 with h3 | h3
  · rw [h2] at h3; cases h3
  · exact h3
theorem oI_some (l : Nat) : oI (some l) = nI l := rfl
theorem oI_none : oI none = -1 := rfl
theorem nI_ne_m1 {n : Nat} (h : n < 2147483648) : nI n ≠ -1 := by
  intro h1
  have := nI_toInt h
  rw [h1] at this
  have h2 : (-1 : Int32).toInt = -1 := by decide
  omega
section BREAD2
variable {M : Mem} {b : Nat} {S : BS} {z : ZS}
set_option maxRecDepth 20000 in
theorem s_partner (hI : InvB S z) (hZ : ZOK z) {k : Nat} (hk : k < zt z) : Spec mX0_partner 3 0 0 [.ref b, .int (nI k)] (bset M b S) (some (.int (oI (part z k)))) (bset M b S) := by
  have hd := hZ.dims
  have hf := hZ.fo hk
  refine Spec_of [some (.ref b), some (.int (nI k)), none, none, none, none] (by decide) (Nat.le_of_ble_eq_true rfl) rfl ?_
  refine r_aload0 (pc := 0) dX0_partner_0 ?_
  refine r_getf (pc := 1) fl_X0_12 dX0_partner_1 (bget0 rfl) rfl ?_
  refine r_getf (pc := 4) fl_X0_109 dX0_partner_4 (bget rfl) rfl ?_
  refine r_iload1 (pc := 7) dX0_partner_7 ?_
  refine r_callN2i (pc := 8) lk_X0_115 dX0_partner_8 (s_at (bget rfl) (by omega) (by decide) (hI.F hk)) (by decide) (Nat.le_of_ble_eq_true rfl) ⟨Nat.zero_le _, Nat.zero_le _⟩ ?_
  refine r_istore2 (pc := 11) dX0_partner_11 rfl ?_
  refine r_aload0 (pc := 12) dX0_partner_12 ?_
  refine r_iload1 (pc := 13) dX0_partner_13 ?_
  refine r_callV1i (pc := 14) lk_X0_119 dX0_partner_14 (bget0 rfl) (s_isAlongRow hI hZ hk) (by decide) (Nat.le_of_ble_eq_true rfl) ⟨Nat.zero_le _, Nat.zero_le _⟩ ?_
  refine r_istore3 (pc := 17) dX0_partner_17 rfl ?_
  refine r_aload0 (pc := 18) dX0_partner_18 ?_
  refine r_getf (pc := 19) fl_X0_96 dX0_partner_19 (bget0 rfl) rfl ?_
  rw [hI.c0]
  refine n_if_le (pc := 22) 44 (by decide) dX0_partner_22 (by omega) (fun hc22 => absurd hc22 (by omega)) (fun hc22 => ?_)
  refine r_iload3 (pc := 25) dX0_partner_25 ?_
  have rest : ¬ (al z k = false ∧ zF z k % zc z = zc z - 1) → G mX0_partner 3 (.inl false) 0 0 (dT (some (.int (oI (part z k)))) (bset M b S)) none 0 0 46 [some (.ref b), some (.int (nI k)), some (.int (nI (zF z k))), some (.int (bI (al z k))), none, none] [] (bset M b S) := by
    intro hcol
    have fin : G mX0_partner 3 (.inl false) 0 0 (dT (some (.int (oI (part z k)))) (bset M b S)) none 0 0 60 [some (.ref b), some (.int (nI k)), some (.int (nI (zF z k))), some (.int (bI (al z k))), none, none] [.int (nI (stt z k))] (bset M b S) := by
      refine r_istore4 (pc := 60) dX0_partner_60 rfl ?_
      refine r_iload4 (pc := 62) dX0_partner_62 ?_
      refine r_aload0 (pc := 64) dX0_partner_64 ?_
      refine r_getf (pc := 65) fl_X0_102 dX0_partner_65 (bget0 rfl) rfl ?_
      rw [hI.c2]
      refine n_icmp_lt (pc := 68) 73 (by decide) dX0_partner_68 (by unfold stt; split <;> omega) (by omega) (fun hlt => ?_) (fun hge => ?_)
      · obtain ⟨l, hl, he, hp⟩ := hI.P hZ hlt
        refine r_aload0 (pc := 73) dX0_partner_73 ?_
        refine r_getf (pc := 74) fl_X0_31 dX0_partner_74 (bget0 rfl) rfl ?_
        refine r_iload4 (pc := 77) dX0_partner_77 ?_
        refine r_callN2i (pc := 79) lk_X0_115 dX0_partner_79 (s_at (bget rfl) (by omega) (by decide) hp) (by decide) (Nat.le_of_ble_eq_true rfl) ⟨Nat.zero_le _, Nat.zero_le _⟩ ?_
        refine r_istore5 (pc := 82) dX0_partner_82 rfl ?_
        refine r_aload0 (pc := 84) dX0_partner_84 ?_
        refine r_getf (pc := 85) fl_X0_12 dX0_partner_85 (bget0 rfl) rfl ?_
        refine r_getf (pc := 88) fl_X0_109 dX0_partner_88 (bget rfl) rfl ?_
        refine r_iload5 (pc := 91) dX0_partner_91 ?_
        refine r_callN2i (pc := 93) lk_X0_115 dX0_partner_93 (s_at (bget rfl) (by omega) (by decide) (hI.F hl)) (by decide) (Nat.le_of_ble_eq_true rfl) ⟨Nat.zero_le _, Nat.zero_le _⟩ ?_
        refine r_iload4 (pc := 96) dX0_partner_96 ?_
        have hfl := hZ.fo hl
        refine n_icmp_ne (pc := 98) 116 (by decide) dX0_partner_98 (by omega) (by unfold stt; split <;> omega) (fun hne => ?_) (fun heq => ?_)
        · have hn : part z k = none := part_none (fun m hm => by
            have h2 : zF z m ≠ stt z k := by
              intro h3
              rcases he with he | he
              · exact hne he
              · exact hZ.fno hm hl (by rw [h3, he])
            simp [pkB, h2])
          rw [hn]
          refine r_iconst_m1 (pc := 116) dX0_partner_116 ?_
          exact r_ireturn (pc := 117) false rfl rfl rfl dX0_partner_117 (Nat.zero_le _) (Nat.zero_le _) (Or.inl rfl) rfl rfl rfl
        · refine r_aload0 (pc := 101) dX0_partner_101 ?_
          refine r_iload5 (pc := 102) dX0_partner_102 ?_
          refine r_callV1i (pc := 104) lk_X0_119 dX0_partner_104 (bget0 rfl) (s_isAlongRow hI hZ hl) (by decide) (Nat.le_of_ble_eq_true rfl) ⟨Nat.zero_le _, Nat.zero_le _⟩ ?_
          refine r_iload3 (pc := 107) dX0_partner_107 ?_
          refine r_icmp_ne (pc := 108) 116 (by decide) dX0_partner_108 (fun h9 => ?_) (fun h9 => ?_)
          · have hn : part z k = none := part_none (fun m hm => by
              have h2 : zF z m = stt z k → al z m ≠ al z k := by
                intro h3 h4
                have := hZ.finj hm hl (by rw [h3, heq])
                subst this
                exact h9 (by rw [h4])
              by_cases h3 : zF z m = stt z k
              · simp [pkB, h2 h3]
              · simp [pkB, h3])
            rw [hn]
            refine r_iconst_m1 (pc := 116) dX0_partner_116 ?_
            exact r_ireturn (pc := 117) false rfl rfl rfl dX0_partner_117 (Nat.zero_le _) (Nat.zero_le _) (Or.inl rfl) rfl rfl rfl
          · have ha : al z l = al z k := by
              cases h1 : al z l <;> cases h2 : al z k <;> rw [h1, h2] at h9 <;> first | rfl | exact absurd h9 (by decide)
            have hn : part z k = some l := (part_spec hZ).mpr ⟨hl, by
              simp only [pkB, Bool.and_eq_true, Bool.or_eq_true, decide_eq_true_eq, beq_iff_eq]
              refine ⟨⟨heq, ha⟩, ?_⟩
              cases h1 : al z k with
              | true => exact Or.inl rfl
              | false => exact Or.inr (fun h2 => hcol ⟨h1, h2⟩)⟩
            rw [hn]
            refine r_iload5 (pc := 111) dX0_partner_111 ?_
            refine r_goto (pc := 113) 117 (by decide) dX0_partner_113 ?_
            exact r_ireturn (pc := 117) false rfl rfl rfl dX0_partner_117 (Nat.zero_le _) (Nat.zero_le _) (Or.inl rfl) rfl rfl rfl
      · have hn : part z k = none := part_none (fun m hm => by
          have := hZ.fq hm
          have h2 : zF z m ≠ stt z k := by omega
          simp [pkB, h2])
        rw [hn]
        refine r_iconst_m1 (pc := 71) dX0_partner_71 ?_
        exact r_ireturn (pc := 72) false rfl rfl rfl dX0_partner_72 (Nat.zero_le _) (Nat.zero_le _) (Or.inl rfl) rfl rfl rfl
    refine r_iload2 (pc := 46) dX0_partner_46 ?_
    refine r_iload3 (pc := 47) dX0_partner_47 ?_
    refine b_if_eq (pc := 48) 58 (by decide) dX0_partner_48 (fun h9 => ?_) (fun h9 => ?_)
    · refine n_iconst_1 (pc := 58) dX0_partner_58 ?_
      first | refine n_iadd (pc := 59) dX0_partner_59 ?_ | refine z_iadd (pc := 59) dX0_partner_59 ?_ | refine r_iadd (pc := 59) dX0_partner_59 ?_
      have e : zF z k + 1 = stt z k := by unfold stt; rw [h9]; rfl
      rw [e]; exact fin
    · refine r_aload0 (pc := 51) dX0_partner_51 ?_
      refine r_getf (pc := 52) fl_X0_96 dX0_partner_52 (bget0 rfl) rfl ?_
      rw [hI.c0]
      refine r_goto (pc := 55) 59 (by decide) dX0_partner_55 ?_
      first | refine n_iadd (pc := 59) dX0_partner_59 ?_ | refine z_iadd (pc := 59) dX0_partner_59 ?_ | refine r_iadd (pc := 59) dX0_partner_59 ?_
      have e : zF z k + zc z = stt z k := by unfold stt; rw [h9]; rfl
      rw [e]; exact fin
  refine b_if_ne (pc := 26) 46 (by decide) dX0_partner_26 (fun h9 => rest (fun h8 => by rw [h8.1] at h9; cases h9)) (fun h9 => ?_)
  refine r_iload2 (pc := 29) dX0_partner_29 ?_
  refine r_aload0 (pc := 30) dX0_partner_30 ?_
  refine r_getf (pc := 31) fl_X0_96 dX0_partner_31 (bget0 rfl) rfl ?_
  rw [hI.c0]
  refine n_irem (pc := 34) dX0_partner_34 (by omega) (by omega) (by omega) ?_
  refine r_aload0 (pc := 35) dX0_partner_35 ?_
  refine r_getf (pc := 36) fl_X0_96 dX0_partner_36 (bget0 rfl) rfl ?_
  rw [hI.c0]
  refine n_iconst_1 (pc := 39) dX0_partner_39 ?_
  refine n_isub (pc := 40) dX0_partner_40 (by omega) ?_
  have hm : zF z k % zc z < zc z := Nat.mod_lt _ (by omega)
  refine n_icmp_ne (pc := 41) 46 (by decide) dX0_partner_41 (by omega) (by omega) (fun h8 => rest (fun h7 => h8 h7.2)) (fun h8 => ?_)
  have hn : part z k = none := part_none (fun m hm => by simp [pkB, h9, h8])
  rw [hn]
  refine r_iconst_m1 (pc := 44) dX0_partner_44 ?_
  exact r_ireturn (pc := 45) false rfl rfl rfl dX0_partner_45 (Nat.zero_le _) (Nat.zero_le _) (Or.inl rfl) rfl rfl rfl
set_option maxRecDepth 20000 in
theorem s_isFreeBlock (hI : InvB S z) (hZ : ZOK z) {k : Nat} (hk : k < zt z) : Spec mX0_isFreeBlock 4 0 0 [.ref b, .int (nI k)] (bset M b S) (some (.int (bI (match part z k with | none => false | some l => decide (zH z k = 0) && decide (zH z l = 0))))) (bset M b S) := by
  have hd := hZ.dims
  refine Spec_of [some (.ref b), some (.int (nI k)), none] (by decide) (Nat.le_of_ble_eq_true rfl) rfl ?_
  refine r_aload0 (pc := 0) dX0_isFreeBlock_0 ?_
  refine r_iload1 (pc := 1) dX0_isFreeBlock_1 ?_
  refine r_callV1i (pc := 2) lk_X0_184 dX0_isFreeBlock_2 (bget0 rfl) (s_partner hI hZ hk) (by decide) (Nat.le_of_ble_eq_true rfl) ⟨Nat.zero_le _, Nat.zero_le _⟩ ?_
  refine r_istore2 (pc := 5) dX0_isFreeBlock_5 rfl ?_
  refine r_iload2 (pc := 6) dX0_isFreeBlock_6 ?_
  refine r_iconst_m1 (pc := 7) dX0_isFreeBlock_7 ?_
  cases hp : part z k with
  | none =>
    refine r_icmp_eq (pc := 8) 31 (by decide) dX0_isFreeBlock_8 (fun _ => ?_) (fun h9 => absurd rfl h9)
    refine n_iconst_0 (pc := 31) dX0_isFreeBlock_31 ?_
    exact r_ireturn (pc := 32) false rfl rfl (by decide) dX0_isFreeBlock_32 (Nat.zero_le _) (Nat.zero_le _) (Or.inl rfl) rfl rfl rfl
  | some l =>
    have hl := part_lt hZ hp
    refine r_icmp_eq (pc := 8) 31 (by decide) dX0_isFreeBlock_8 (fun h9 => absurd h9 (nI_ne_m1 (by omega))) (fun _ => ?_)
    refine r_aload0 (pc := 11) dX0_isFreeBlock_11 ?_
    refine r_iload1 (pc := 12) dX0_isFreeBlock_12 ?_
    refine r_callV1i (pc := 13) lk_X0_168 dX0_isFreeBlock_13 (bget0 rfl) (s_isHeld hI hZ hk) (by decide) (Nat.le_of_ble_eq_true rfl) ⟨Nat.zero_le _, Nat.zero_le _⟩ ?_
    refine b_if_ne (pc := 16) 31 (by decide) dX0_isFreeBlock_16 (fun h9 => ?_) (fun h9 => ?_)
    · refine n_iconst_0 (pc := 31) dX0_isFreeBlock_31 ?_
      exact r_ireturn (pc := 32) false rfl rfl (by decide) dX0_isFreeBlock_32 (Nat.zero_le _) (Nat.zero_le _) (Or.inl rfl) rfl (by simp at h9; simp [h9]; rfl) rfl
    · refine r_aload0 (pc := 19) dX0_isFreeBlock_19 ?_
      refine r_iload2 (pc := 20) dX0_isFreeBlock_20 ?_
      refine r_callV1i (pc := 21) lk_X0_168 dX0_isFreeBlock_21 (bget0 rfl) (s_isHeld hI hZ hl) (by decide) (Nat.le_of_ble_eq_true rfl) ⟨Nat.zero_le _, Nat.zero_le _⟩ ?_
      refine b_if_ne (pc := 24) 31 (by decide) dX0_isFreeBlock_24 (fun h8 => ?_) (fun h8 => ?_)
      · refine n_iconst_0 (pc := 31) dX0_isFreeBlock_31 ?_
        exact r_ireturn (pc := 32) false rfl rfl (by decide) dX0_isFreeBlock_32 (Nat.zero_le _) (Nat.zero_le _) (Or.inl rfl) rfl (by simp at h8; simp [h8]; rfl) rfl
      · refine n_iconst_1 (pc := 27) dX0_isFreeBlock_27 ?_
        refine r_goto (pc := 28) 32 (by decide) dX0_isFreeBlock_28 ?_
        exact r_ireturn (pc := 32) false rfl rfl (by decide) dX0_isFreeBlock_32 (Nat.zero_le _) (Nat.zero_le _) (Or.inl rfl) rfl (by simp at h8 h9; simp [h8, h9]; rfl) rfl
end BREAD2
