def aG (z : ZS) (x y g : Nat) : ZS := if canG z x y g then greyZ z (y * zc z + x) g else z
def aT (z : ZS) (k : Nat) : ZS := if canT z k then turnZ z k else z
def aS (z : ZS) (j k : Nat) : ZS := if canS z j k then swapZ z j k else z
def aH (z : ZS) (k : Nat) : ZS := if k < zt z then holdZ z k 1 else z
theorem aG_ok {z : ZS} (h : ZOK z) (x y g : Nat) : ZOK (aG z x y g) := by
  unfold aG
  split
  · rename_i hc
    unfold canG at hc
    exact greyZ_ok h _ (by simp at hc; omega)
  · exact h
theorem aT_ok {z : ZS} (h : ZOK z) (k : Nat) : ZOK (aT z k) := by unfold aT; split; exact turnZ_ok h k; exact h
theorem aS_ok {z : ZS} (h : ZOK z) (j k : Nat) : ZOK (aS z j k) := by
  unfold aS
  split
  · rename_i hc
    unfold canS at hc
    simp at hc
    exact swapZ_ok h (by omega) (by omega)
  · exact h
theorem aH_ok {z : ZS} (h : ZOK z) (k : Nat) : ZOK (aH z k) := by unfold aH; split; exact holdZ_ok h k (by omega); exact h
/-- one turn of a simulation -/
def simZ (z : ZS) (r : Nat) : ZS :=
  if r % 8 ≤ 1 then aG z (r / 8 % 8) (r / 8 / 8 % 14) (r / 8 / 128 % 100)
  else if r % 8 = 2 then aT z (r / 8 % 56)
  else if r % 8 ≤ 4 then aS z (r / 8 % 56) (r / 8 / 64 % 56)
  else if r % 8 = 5 then flO z (flA z (r / 8 % 8) (r / 8 / 8 % 14))
  else if r % 8 = 6 then (if r / 8 % 4 = 0 then fadeZ z (r / 8 % 100) (r / 8 / 128 % 100) else layZ z)
  else impZ (1 + r / 8 % 4) z
theorem simZ_ok {z : ZS} (h : ZOK z) (r : Nat) : ZOK (simZ z r) := by
  unfold simZ
  split
  · exact aG_ok h _ _ _
  · split
    · exact aT_ok h _
    · split
      · exact aS_ok h _ _
      · split
        · exact flO_ok h
        · split
          · split
            · exact fadeZ_ok h (by omega) (by omega)
            · exact layZ_ok h
          · exact impZ_ok _ h
section TURNS
variable {M : Mem} {b : Nat} {S : BS} {z : ZS}
theorem s_isCountOfChanges {n : Nat} (hn : n < 2147483648) : Spec mX7_isCountOfChanges 1 0 0 [.int (nI n)] M (some (.int (bI (decide (1 ≤ n ∧ n ≤ 20))))) M := by
  refine Spec_of [some (.int (nI n))] (by decide) (Nat.le_of_ble_eq_true rfl) rfl ?_
  refine r_iload0 (pc := 0) dX7_isCountOfChanges_0 ?_
  refine n_iconst_1 (pc := 1) dX7_isCountOfChanges_1 ?_
  refine n_icmp_lt (pc := 2) 15 (by decide) dX7_isCountOfChanges_2 (by omega) (by omega) (fun h1 => ?_) (fun h1 => ?_)
  · refine n_iconst_0 (pc := 15) dX7_isCountOfChanges_15 ?_
    exact r_ireturn (pc := 16) false rfl rfl (by decide) dX7_isCountOfChanges_16 (Nat.zero_le _) (Nat.zero_le _) (Or.inl rfl) rfl (by rw [decide_eq_false (by omega)]; rfl) rfl
  · refine r_iload0 (pc := 5) dX7_isCountOfChanges_5 ?_
    refine n_bipush (pc := 6) 20 (by decide) dX7_isCountOfChanges_6 ?_
    refine n_icmp_gt (pc := 8) 15 (by decide) dX7_isCountOfChanges_8 (by omega) (by omega) (fun h2 => ?_) (fun h2 => ?_)
    · refine n_iconst_0 (pc := 15) dX7_isCountOfChanges_15 ?_
      exact r_ireturn (pc := 16) false rfl rfl (by decide) dX7_isCountOfChanges_16 (Nat.zero_le _) (Nat.zero_le _) (Or.inl rfl) rfl (by rw [decide_eq_false (by omega)]; rfl) rfl
    · refine n_iconst_1 (pc := 11) dX7_isCountOfChanges_11 ?_
      refine r_goto (pc := 12) 16 (by decide) dX7_isCountOfChanges_12 ?_
      exact r_ireturn (pc := 16) false rfl rfl (by decide) dX7_isCountOfChanges_16 (Nat.zero_le _) (Nat.zero_le _) (Or.inl rfl) rfl (by rw [decide_eq_true (by omega)]; rfl) rfl
set_option maxRecDepth 20000 in
theorem s_doTurn (hI : InvB S z) (hZ : ZOK z) {r : Nat} (hr : r < 2147483648) : SpecP mX1_doTurn 6 0 0 [.ref b, .int (nI r)] (bset M b S) (tB none M b (simZ z r)) := by
  have hd := hZ.dims
  refine Spec_of [some (.ref b), some (.int (nI r)), none] (by decide) (Nat.le_of_ble_eq_true rfl) rfl ?_
  have fin : ∀ S w, InvB S w → simZ z r = w →
    G mX1_doTurn 6 (.inl false) 0 0 (tB none M b (simZ z r)) none 0 0 170 [some (.ref b), some (.int (nI r)), some (.int (nI (r / 8)))] [] (bset M b S)
    := by
    intro S w hI e
    exact p_return (pc := 170) false rfl rfl dX1_doTurn_170 (Nat.zero_le _) (Nat.zero_le _) (Or.inl rfl) ⟨rfl, S, by rw [e]; exact hI, rfl⟩
  refine r_iload1 (pc := 0) dX1_doTurn_0 ?_
  refine n_bipush (pc := 1) 8 (by decide) dX1_doTurn_1 ?_
  refine n_idiv (pc := 3) dX1_doTurn_3 (by omega) (by omega) (by omega) ?_
  refine r_istore2 (pc := 4) dX1_doTurn_4 rfl ?_
  refine r_iload1 (pc := 5) dX1_doTurn_5 ?_
  refine n_bipush (pc := 6) 8 (by decide) dX1_doTurn_6 ?_
  refine n_irem (pc := 8) dX1_doTurn_8 (by omega) (by omega) (by omega) ?_
  have c : r % 8 = 0 ∨ r % 8 = 1 ∨ r % 8 = 2 ∨ r % 8 = 3 ∨ r % 8 = 4 ∨ r % 8 = 5 ∨ r % 8 = 6 ∨ r % 8 = 7 := by omega
  rcases c with c | c | c | c | c | c | c | c
  · rw [c]
    refine r_tableIn (pc := 9) 52 (by decide) (by decide) rfl (by decide) dX1_doTurn_9 ?_
    refine r_aload0 (pc := 52) dX1_doTurn_52 ?_
    refine r_iload2 (pc := 53) dX1_doTurn_53 ?_
    refine n_bipush (pc := 54) 8 (by decide) dX1_doTurn_54 ?_
    refine n_irem (pc := 56) dX1_doTurn_56 (by omega) (by omega) (by omega) ?_
    refine r_iload2 (pc := 57) dX1_doTurn_57 ?_
    refine n_bipush (pc := 58) 8 (by decide) dX1_doTurn_58 ?_
    refine n_idiv (pc := 60) dX1_doTurn_60 (by omega) (by omega) (by omega) ?_
    refine n_bipush (pc := 61) 14 (by decide) dX1_doTurn_61 ?_
    refine n_irem (pc := 63) dX1_doTurn_63 (by omega) (by omega) (by omega) ?_
    refine r_iload2 (pc := 64) dX1_doTurn_64 ?_
    refine n_sipush (pc := 65) 128 (by decide) dX1_doTurn_65 ?_
    refine n_idiv (pc := 68) dX1_doTurn_68 (by omega) (by omega) (by omega) ?_
    refine n_bipush (pc := 69) 100 (by decide) dX1_doTurn_69 ?_
    refine n_irem (pc := 71) dX1_doTurn_71 (by omega) (by omega) (by omega) ?_
    refine r_callV3x (pc := 72) lk_X1_19 dX1_doTurn_72 (bget0 rfl) (s_tryGrey hI hZ (x := r / 8 % 8) (y := r / 8 / 8 % 14) (g := r / 8 / 128 % 100) (by omega) (by omega) (by omega)) (by decide) (Nat.le_of_ble_eq_true rfl) ⟨Nat.zero_le _, Nat.zero_le _⟩ (fun M9 h9 => ?_)
    obtain ⟨S, hI, rfl⟩ := h9
    refine r_pop (pc := 75) dX1_doTurn_75 rfl ?_
    refine r_goto (pc := 76) 170 (by decide) dX1_doTurn_76 ?_
    exact fin _ _ hI (by unfold simZ; rw [if_pos (by omega)]; rfl)
  · rw [c]
    refine r_tableIn (pc := 9) 52 (by decide) (by decide) rfl (by decide) dX1_doTurn_9 ?_
    refine r_aload0 (pc := 52) dX1_doTurn_52 ?_
    refine r_iload2 (pc := 53) dX1_doTurn_53 ?_
    refine n_bipush (pc := 54) 8 (by decide) dX1_doTurn_54 ?_
    refine n_irem (pc := 56) dX1_doTurn_56 (by omega) (by omega) (by omega) ?_
    refine r_iload2 (pc := 57) dX1_doTurn_57 ?_
    refine n_bipush (pc := 58) 8 (by decide) dX1_doTurn_58 ?_
    refine n_idiv (pc := 60) dX1_doTurn_60 (by omega) (by omega) (by omega) ?_
    refine n_bipush (pc := 61) 14 (by decide) dX1_doTurn_61 ?_
    refine n_irem (pc := 63) dX1_doTurn_63 (by omega) (by omega) (by omega) ?_
    refine r_iload2 (pc := 64) dX1_doTurn_64 ?_
    refine n_sipush (pc := 65) 128 (by decide) dX1_doTurn_65 ?_
    refine n_idiv (pc := 68) dX1_doTurn_68 (by omega) (by omega) (by omega) ?_
    refine n_bipush (pc := 69) 100 (by decide) dX1_doTurn_69 ?_
    refine n_irem (pc := 71) dX1_doTurn_71 (by omega) (by omega) (by omega) ?_
    refine r_callV3x (pc := 72) lk_X1_19 dX1_doTurn_72 (bget0 rfl) (s_tryGrey hI hZ (x := r / 8 % 8) (y := r / 8 / 8 % 14) (g := r / 8 / 128 % 100) (by omega) (by omega) (by omega)) (by decide) (Nat.le_of_ble_eq_true rfl) ⟨Nat.zero_le _, Nat.zero_le _⟩ (fun M9 h9 => ?_)
    obtain ⟨S, hI, rfl⟩ := h9
    refine r_pop (pc := 75) dX1_doTurn_75 rfl ?_
    refine r_goto (pc := 76) 170 (by decide) dX1_doTurn_76 ?_
    exact fin _ _ hI (by unfold simZ; rw [if_pos (by omega)]; rfl)
  · rw [c]
    refine r_tableIn (pc := 9) 79 (by decide) (by decide) rfl (by decide) dX1_doTurn_9 ?_
    refine r_aload0 (pc := 79) dX1_doTurn_79 ?_
    refine r_iload2 (pc := 80) dX1_doTurn_80 ?_
    refine n_bipush (pc := 81) 56 (by decide) dX1_doTurn_81 ?_
    refine n_irem (pc := 83) dX1_doTurn_83 (by omega) (by omega) (by omega) ?_
    refine r_callV1x (pc := 84) lk_X1_25 dX1_doTurn_84 (bget0 rfl) (s_tryTurn hI hZ (k := r / 8 % 56) (by omega)) (by decide) (Nat.le_of_ble_eq_true rfl) ⟨Nat.zero_le _, Nat.zero_le _⟩ (fun M9 h9 => ?_)
    obtain ⟨S, hI, rfl⟩ := h9
    refine r_pop (pc := 87) dX1_doTurn_87 rfl ?_
    refine r_goto (pc := 88) 170 (by decide) dX1_doTurn_88 ?_
    exact fin _ _ hI (by unfold simZ; rw [if_neg (by omega), if_pos (by omega)]; rfl)
  · rw [c]
    refine r_tableIn (pc := 9) 91 (by decide) (by decide) rfl (by decide) dX1_doTurn_9 ?_
    refine r_aload0 (pc := 91) dX1_doTurn_91 ?_
    refine r_iload2 (pc := 92) dX1_doTurn_92 ?_
    refine n_bipush (pc := 93) 56 (by decide) dX1_doTurn_93 ?_
    refine n_irem (pc := 95) dX1_doTurn_95 (by omega) (by omega) (by omega) ?_
    refine r_iload2 (pc := 96) dX1_doTurn_96 ?_
    refine n_bipush (pc := 97) 64 (by decide) dX1_doTurn_97 ?_
    refine n_idiv (pc := 99) dX1_doTurn_99 (by omega) (by omega) (by omega) ?_
    refine n_bipush (pc := 100) 56 (by decide) dX1_doTurn_100 ?_
    refine n_irem (pc := 102) dX1_doTurn_102 (by omega) (by omega) (by omega) ?_
    refine r_callV2x (pc := 103) lk_X1_29 dX1_doTurn_103 (bget0 rfl) (s_trySwap hI hZ (j := r / 8 % 56) (k := r / 8 / 64 % 56) (by omega) (by omega)) (by decide) (Nat.le_of_ble_eq_true rfl) ⟨Nat.zero_le _, Nat.zero_le _⟩ (fun M9 h9 => ?_)
    obtain ⟨S, hI, rfl⟩ := h9
    refine r_pop (pc := 106) dX1_doTurn_106 rfl ?_
    refine r_goto (pc := 107) 170 (by decide) dX1_doTurn_107 ?_
    exact fin _ _ hI (by unfold simZ; rw [if_neg (by omega), if_neg (by omega), if_pos (by omega)]; rfl)
  · rw [c]
    refine r_tableIn (pc := 9) 91 (by decide) (by decide) rfl (by decide) dX1_doTurn_9 ?_
    refine r_aload0 (pc := 91) dX1_doTurn_91 ?_
    refine r_iload2 (pc := 92) dX1_doTurn_92 ?_
    refine n_bipush (pc := 93) 56 (by decide) dX1_doTurn_93 ?_
    refine n_irem (pc := 95) dX1_doTurn_95 (by omega) (by omega) (by omega) ?_
    refine r_iload2 (pc := 96) dX1_doTurn_96 ?_
    refine n_bipush (pc := 97) 64 (by decide) dX1_doTurn_97 ?_
    refine n_idiv (pc := 99) dX1_doTurn_99 (by omega) (by omega) (by omega) ?_
    refine n_bipush (pc := 100) 56 (by decide) dX1_doTurn_100 ?_
    refine n_irem (pc := 102) dX1_doTurn_102 (by omega) (by omega) (by omega) ?_
    refine r_callV2x (pc := 103) lk_X1_29 dX1_doTurn_103 (bget0 rfl) (s_trySwap hI hZ (j := r / 8 % 56) (k := r / 8 / 64 % 56) (by omega) (by omega)) (by decide) (Nat.le_of_ble_eq_true rfl) ⟨Nat.zero_le _, Nat.zero_le _⟩ (fun M9 h9 => ?_)
    obtain ⟨S, hI, rfl⟩ := h9
    refine r_pop (pc := 106) dX1_doTurn_106 rfl ?_
    refine r_goto (pc := 107) 170 (by decide) dX1_doTurn_107 ?_
    exact fin _ _ hI (by unfold simZ; rw [if_neg (by omega), if_neg (by omega), if_pos (by omega)]; rfl)
  · rw [c]
    refine r_tableIn (pc := 9) 110 (by decide) (by decide) rfl (by decide) dX1_doTurn_9 ?_
    refine r_aload0 (pc := 110) dX1_doTurn_110 ?_
    refine r_iload2 (pc := 111) dX1_doTurn_111 ?_
    refine n_bipush (pc := 112) 8 (by decide) dX1_doTurn_112 ?_
    refine n_irem (pc := 114) dX1_doTurn_114 (by omega) (by omega) (by omega) ?_
    refine r_iload2 (pc := 115) dX1_doTurn_115 ?_
    refine n_bipush (pc := 116) 8 (by decide) dX1_doTurn_116 ?_
    refine n_idiv (pc := 118) dX1_doTurn_118 (by omega) (by omega) (by omega) ?_
    refine n_bipush (pc := 119) 14 (by decide) dX1_doTurn_119 ?_
    refine n_irem (pc := 121) dX1_doTurn_121 (by omega) (by omega) (by omega) ?_
    refine r_callV2x (pc := 122) lk_X1_33 dX1_doTurn_122 (bget0 rfl) (s_tryFlip hI hZ (x := r / 8 % 8) (y := r / 8 / 8 % 14) (by omega) (by omega)) (by decide) (Nat.le_of_ble_eq_true rfl) ⟨Nat.zero_le _, Nat.zero_le _⟩ (fun M9 h9 => ?_)
    obtain ⟨S, hI, rfl⟩ := h9
    refine r_pop (pc := 125) dX1_doTurn_125 rfl ?_
    refine r_goto (pc := 126) 170 (by decide) dX1_doTurn_126 ?_
    exact fin _ _ hI (by unfold simZ; rw [if_neg (by omega), if_neg (by omega), if_neg (by omega), if_pos (by omega)])
  · rw [c]
    refine r_tableIn (pc := 9) 129 (by decide) (by decide) rfl (by decide) dX1_doTurn_9 ?_
    refine r_iload2 (pc := 129) dX1_doTurn_129 ?_
    refine n_iconst_4 (pc := 130) dX1_doTurn_130 ?_
    refine n_irem (pc := 131) dX1_doTurn_131 (by omega) (by omega) (by omega) ?_
    refine n_if_ne (pc := 132) 154 (by decide) dX1_doTurn_132 (by omega) (fun h9 => ?_) (fun h9 => ?_)
    · refine r_aload0 (pc := 154) dX1_doTurn_154 ?_
      refine r_callV0w (pc := 155) lk_X1_43 dX1_doTurn_155 (bget0 rfl) (s_layAnew hI hZ) (by decide) (Nat.le_of_ble_eq_true rfl) ⟨Nat.zero_le _, Nat.zero_le _⟩ (fun M9 h9 => ?_)
      obtain ⟨S, hI, rfl⟩ := h9
      refine r_goto (pc := 158) 170 (by decide) dX1_doTurn_158 ?_
      exact fin _ _ hI (by unfold simZ; rw [if_neg (by omega), if_neg (by omega), if_neg (by omega), if_neg (by omega), if_pos (by omega), if_neg h9])
    · refine r_aload0 (pc := 135) dX1_doTurn_135 ?_
      refine r_iload2 (pc := 136) dX1_doTurn_136 ?_
      refine n_bipush (pc := 137) 100 (by decide) dX1_doTurn_137 ?_
      refine n_irem (pc := 139) dX1_doTurn_139 (by omega) (by omega) (by omega) ?_
      refine r_iload2 (pc := 140) dX1_doTurn_140 ?_
      refine n_sipush (pc := 141) 128 (by decide) dX1_doTurn_141 ?_
      refine n_idiv (pc := 144) dX1_doTurn_144 (by omega) (by omega) (by omega) ?_
      refine n_bipush (pc := 145) 100 (by decide) dX1_doTurn_145 ?_
      refine n_irem (pc := 147) dX1_doTurn_147 (by omega) (by omega) (by omega) ?_
      refine r_callV2w (pc := 148) lk_X1_39 dX1_doTurn_148 (bget0 rfl) (s_fadeAll hI hZ (a := r / 8 % 100) (c := r / 8 / 128 % 100) (by omega) (by omega)) (by decide) (Nat.le_of_ble_eq_true rfl) ⟨Nat.zero_le _, Nat.zero_le _⟩ (fun M9 h9 => ?_)
      obtain ⟨S, hI, rfl⟩ := h9
      refine r_goto (pc := 151) 170 (by decide) dX1_doTurn_151 ?_
      exact fin _ _ hI (by unfold simZ; rw [if_neg (by omega), if_neg (by omega), if_neg (by omega), if_neg (by omega), if_pos (by omega), if_pos h9])
  · rw [c]
    refine r_tableOut (pc := 9) 161 (by decide) (by decide) dX1_doTurn_9 ?_
    refine r_aload0 (pc := 161) dX1_doTurn_161 ?_
    refine n_iconst_1 (pc := 162) dX1_doTurn_162 ?_
    refine r_iload2 (pc := 163) dX1_doTurn_163 ?_
    refine n_iconst_4 (pc := 164) dX1_doTurn_164 ?_
    refine n_irem (pc := 165) dX1_doTurn_165 (by omega) (by omega) (by omega) ?_
    first | refine n_iadd (pc := 166) dX1_doTurn_166 ?_ | refine z_iadd (pc := 166) dX1_doTurn_166 ?_ | refine r_iadd (pc := 166) dX1_doTurn_166 ?_
    refine r_callV1w (pc := 167) lk_X1_46 dX1_doTurn_167 (bget0 rfl) (s_doBestChanges hI hZ (m := 1 + r / 8 % 4) (by omega)) (by decide) (Nat.le_of_ble_eq_true rfl) ⟨Nat.zero_le _, Nat.zero_le _⟩ (fun M9 h9 => ?_)
    obtain ⟨S, hI, rfl⟩ := h9
    exact fin _ _ hI (by unfold simZ; rw [if_neg (by omega), if_neg (by omega), if_neg (by omega), if_neg (by omega), if_neg (by omega)])
end TURNS
