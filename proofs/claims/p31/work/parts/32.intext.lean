/-- how many digits a command of a text has behind its letter -/
def cmL (c : Nat) : Nat := if c = 112 then 5 else if c = 116 then 2 else if c = 115 then 4 else if c = 98 then 3 else if c = 104 then 2 else if c = 102 then 4 else if c = 105 then 2 else 0
def tw (d : Nat → Nat) (i : Nat) : Nat := 10 * d i + d (i + 1)
def cmdZ (z : ZS) (c : Nat) (d : Nat → Nat) : Bool × ZS :=
  if c = 112 then (canG z (d 1) (tw d 2) (tw d 4), aG z (d 1) (tw d 2) (tw d 4))
  else if c = 116 then (canT z (tw d 1), aT z (tw d 1))
  else if c = 115 then (canS z (tw d 1) (tw d 3), aS z (tw d 1) (tw d 3))
  else if c = 98 then ((flA z (d 1) (tw d 2)).isSome, flO z (flA z (d 1) (tw d 2)))
  else if c = 104 then (decide (tw d 1 < zt z), aH z (tw d 1))
  else if c = 102 then (true, fadeZ z (tw d 1) (tw d 3))
  else if c = 108 then (true, layZ z)
  else if c = 105 then (true, impZ (tw d 1) z)
  else (false, z)
theorem cmdZ_ok {z : ZS} (h : ZOK z) (c : Nat) (d : Nat → Nat) (hd : ∀ i, 1 ≤ i → i ≤ cmL c → d i ≤ 9) : ZOK (cmdZ z c d).2 := by
  unfold cmdZ
  split
  · exact aG_ok h _ _ _
  split
  · exact aT_ok h _
  split
  · exact aS_ok h _ _
  split
  · exact flO_ok h
  split
  · exact aH_ok h _
  split
  · rename_i c1
    subst c1
    have d1 := hd 1 (by decide) (by decide)
    have d2 := hd 2 (by decide) (by decide)
    have d3 := hd 3 (by decide) (by decide)
    have d4 := hd 4 (by decide) (by decide)
    exact fadeZ_ok h (by show 10 * d 1 + d 2 ≤ 99; omega) (by show 10 * d 3 + d 4 ≤ 99; omega)
  split
  · exact layZ_ok h
  split
  · exact impZ_ok _ h
  · exact h
theorem tw_le {d : Nat → Nat} {i : Nat} (h1 : d i ≤ 9) (h2 : d (i + 1) ≤ 9) : tw d i ≤ 99 := by unfold tw; omega
section INTEXT
variable {M : Mem} {b : Nat} {S : BS} {z : ZS} {t n : Nat} {f : Nat → Nat}
set_option maxRecDepth 20000 in
theorem s_doInText (hI : InvB S z) (hZ : ZOK z) (h : TXT (bset M b S) t n f) {from_ c : Nat} {d : Nat → Nat} (hf : from_ < n) (hc : f from_ = c) (hk : cmL c = 0 → c = 108) (hd : ∀ i, 1 ≤ i → i ≤ cmL c → dgT n f (from_ + i) = (d i : Int) ∧ d i ≤ 9) : SpecP mX1_doInText 6 0 0 [.ref b, .ref t, .int (nI from_)] (bset M b S) (tB (some (.int (bI (cmdZ z c d).1))) M b (cmdZ z c d).2) := by
  have hdm := hZ.dims
  have h0 := h
  obtain ⟨h1, h2, g, h3, h4, h5⟩ := h0
  refine Spec_of [some (.ref b), some (.ref t), some (.int (nI from_)), none, none, none, none] (by decide) (Nat.le_of_ble_eq_true rfl) rfl ?_
  have ret : ∀ (pc : Nat) (v : Bool) (w : ZS) (S : BS) (lv : List (Option Value)), dec mX1_doInText pc = .ok (.ireturn, 1) → InvB S w → cmdZ z c d = (v, w) → G mX1_doInText 6 (.inl false) 0 0 (tB (some (.int (bI (cmdZ z c d).1))) M b (cmdZ z c d).2) none 0 0 pc lv [.int (bI v)] (bset M b S) := by
    intro pc v w S lv h0 hI e2
    refine p_ireturn (pc := pc) false rfl rfl (nar_bI v) h0 (Nat.zero_le _) (Nat.zero_le _) (Or.inl rfl) ?_
    rw [e2]
    exact ⟨rfl, S, hI, rfl⟩
  have hch : chT n f from_ = (c : Int) := by unfold chT; rw [if_pos hf, hc]
  have two : ∀ i, 1 ≤ i → i + 1 ≤ cmL c → iI (twT n f (from_ + i)) = nI (tw d i) ∧ tw d i ≤ 99 := by
    intro i hi1 hi2
    have a1 := hd i hi1 (by omega)
    have a2 := hd (i + 1) (by omega) hi2
    refine ⟨?_, tw_le a1.2 a2.2⟩
    rw [iI_nat]
    unfold twT
    rw [a1.1, show from_ + i + 1 = from_ + (i + 1) from rfl, a2.1]
    congr 1
  have one : ∀ i, 1 ≤ i → i ≤ cmL c → iI (dgT n f (from_ + i)) = nI (d i) ∧ d i ≤ 9 := by
    intro i hi1 hi2
    have a1 := hd i hi1 hi2
    exact ⟨by rw [iI_nat, a1.1], a1.2⟩
  refine r_aload1 (pc := 0) dX1_doInText_0 ?_
  refine r_iload2 (pc := 1) dX1_doInText_1 ?_
  refine n_iconst_1 (pc := 2) dX1_doInText_2 ?_
  first | refine n_iadd (pc := 3) dX1_doInText_3 ?_ | refine z_iadd (pc := 3) dX1_doInText_3 ?_ | refine r_iadd (pc := 3) dX1_doInText_3 ?_
  refine r_callV1i (pc := 4) lk_X1_7 dX1_doInText_4 h3 (s_digitAt h (by omega)) (by decide) (Nat.le_of_ble_eq_true rfl) ⟨Nat.zero_le _, Nat.zero_le _⟩ ?_
  refine r_istore3 (pc := 7) dX1_doInText_7 rfl ?_
  refine r_aload1 (pc := 8) dX1_doInText_8 ?_
  refine r_iload2 (pc := 9) dX1_doInText_9 ?_
  refine n_iconst_2 (pc := 10) dX1_doInText_10 ?_
  first | refine n_iadd (pc := 11) dX1_doInText_11 ?_ | refine z_iadd (pc := 11) dX1_doInText_11 ?_ | refine r_iadd (pc := 11) dX1_doInText_11 ?_
  refine r_callV1i (pc := 12) lk_X1_13 dX1_doInText_12 h3 (s_twoDigitsAt h (by omega)) (by decide) (Nat.le_of_ble_eq_true rfl) ⟨Nat.zero_le _, Nat.zero_le _⟩ ?_
  refine r_istore4 (pc := 15) dX1_doInText_15 rfl ?_
  refine r_aload1 (pc := 17) dX1_doInText_17 ?_
  refine r_iload2 (pc := 18) dX1_doInText_18 ?_
  refine n_iconst_1 (pc := 19) dX1_doInText_19 ?_
  first | refine n_iadd (pc := 20) dX1_doInText_20 ?_ | refine z_iadd (pc := 20) dX1_doInText_20 ?_ | refine r_iadd (pc := 20) dX1_doInText_20 ?_
  refine r_callV1i (pc := 21) lk_X1_13 dX1_doInText_21 h3 (s_twoDigitsAt h (by omega)) (by decide) (Nat.le_of_ble_eq_true rfl) ⟨Nat.zero_le _, Nat.zero_le _⟩ ?_
  refine r_istore5 (pc := 24) dX1_doInText_24 rfl ?_
  refine r_aload1 (pc := 26) dX1_doInText_26 ?_
  refine r_iload2 (pc := 27) dX1_doInText_27 ?_
  refine n_iconst_3 (pc := 28) dX1_doInText_28 ?_
  first | refine n_iadd (pc := 29) dX1_doInText_29 ?_ | refine z_iadd (pc := 29) dX1_doInText_29 ?_ | refine r_iadd (pc := 29) dX1_doInText_29 ?_
  refine r_callV1i (pc := 30) lk_X1_13 dX1_doInText_30 h3 (s_twoDigitsAt h (by omega)) (by decide) (Nat.le_of_ble_eq_true rfl) ⟨Nat.zero_le _, Nat.zero_le _⟩ ?_
  refine r_istore6 (pc := 33) dX1_doInText_33 rfl ?_
  refine r_aload1 (pc := 35) dX1_doInText_35 ?_
  refine r_iload2 (pc := 36) dX1_doInText_36 ?_
  refine r_callV1i (pc := 37) lk_X1_16 dX1_doInText_37 h3 (s_signAt h (by omega)) (by decide) (Nat.le_of_ble_eq_true rfl) ⟨Nat.zero_le _, Nat.zero_le _⟩ ?_
  rw [hch]
  have cc : c = 112 ∨ c = 116 ∨ c = 115 ∨ c = 98 ∨ c = 104 ∨ c = 102 ∨ c = 108 ∨ c = 105 := by
    refine Classical.byContradiction (fun hn => ?_)
    have h9 : cmL c = 0 := by unfold cmL; rw [if_neg (by omega), if_neg (by omega), if_neg (by omega), if_neg (by omega), if_neg (by omega), if_neg (by omega), if_neg (by omega)]
    have := hk h9
    omega
  rcases cc with e | e | e | e | e | e | e | e <;> subst e
  · have a1 := one 1 (by decide) (by decide)
    have a2 := two 2 (by decide) (by decide)
    have a4 := two 4 (by decide) (by decide)
    rw [a1.1, a2.1]
    refine r_tableIn (pc := 40) 132 (by decide) (by decide) rfl (by decide) dX1_doInText_40 ?_
    refine r_aload0 (pc := 132) dX1_doInText_132 ?_
    refine r_iload3 (pc := 133) dX1_doInText_133 ?_
    refine r_iload4 (pc := 134) dX1_doInText_134 ?_
    refine r_aload1 (pc := 136) dX1_doInText_136 ?_
    refine r_iload2 (pc := 137) dX1_doInText_137 ?_
    refine n_iconst_4 (pc := 138) dX1_doInText_138 ?_
    first | refine n_iadd (pc := 139) dX1_doInText_139 ?_ | refine z_iadd (pc := 139) dX1_doInText_139 ?_ | refine r_iadd (pc := 139) dX1_doInText_139 ?_
    refine r_callV1i (pc := 140) lk_X1_13 dX1_doInText_140 h3 (s_twoDigitsAt h (by omega)) (by decide) (Nat.le_of_ble_eq_true rfl) ⟨Nat.zero_le _, Nat.zero_le _⟩ ?_
    rw [a4.1]
    refine r_callV3x (pc := 143) lk_X1_19 dX1_doInText_143 (bget0 rfl) (s_tryGrey hI hZ (x := d 1) (y := tw d 2) (g := tw d 4) (by omega) (by omega) (by omega)) (by decide) (Nat.le_of_ble_eq_true rfl) ⟨Nat.zero_le _, Nat.zero_le _⟩ (fun M9 h9 => ?_)
    obtain ⟨S, hI, rfl⟩ := h9
    exact ret 146 _ _ S _ dX1_doInText_146 hI rfl
  · have a1 := two 1 (by decide) (by decide)
    rw [a1.1]
    refine r_tableIn (pc := 40) 147 (by decide) (by decide) rfl (by decide) dX1_doInText_40 ?_
    refine r_aload0 (pc := 147) dX1_doInText_147 ?_
    refine r_iload5 (pc := 148) dX1_doInText_148 ?_
    refine r_callV1x (pc := 150) lk_X1_25 dX1_doInText_150 (bget0 rfl) (s_tryTurn hI hZ (k := tw d 1) (by omega)) (by decide) (Nat.le_of_ble_eq_true rfl) ⟨Nat.zero_le _, Nat.zero_le _⟩ (fun M9 h9 => ?_)
    obtain ⟨S, hI, rfl⟩ := h9
    exact ret 153 _ _ S _ dX1_doInText_153 hI rfl
  · have a1 := two 1 (by decide) (by decide)
    have a3 := two 3 (by decide) (by decide)
    rw [a1.1, a3.1]
    refine r_tableIn (pc := 40) 154 (by decide) (by decide) rfl (by decide) dX1_doInText_40 ?_
    refine r_aload0 (pc := 154) dX1_doInText_154 ?_
    refine r_iload5 (pc := 155) dX1_doInText_155 ?_
    refine r_iload6 (pc := 157) dX1_doInText_157 ?_
    refine r_callV2x (pc := 159) lk_X1_29 dX1_doInText_159 (bget0 rfl) (s_trySwap hI hZ (j := tw d 1) (k := tw d 3) (by omega) (by omega)) (by decide) (Nat.le_of_ble_eq_true rfl) ⟨Nat.zero_le _, Nat.zero_le _⟩ (fun M9 h9 => ?_)
    obtain ⟨S, hI, rfl⟩ := h9
    exact ret 162 _ _ S _ dX1_doInText_162 hI rfl
  · have a1 := one 1 (by decide) (by decide)
    have a2 := two 2 (by decide) (by decide)
    rw [a1.1, a2.1]
    refine r_tableIn (pc := 40) 163 (by decide) (by decide) rfl (by decide) dX1_doInText_40 ?_
    refine r_aload0 (pc := 163) dX1_doInText_163 ?_
    refine r_iload3 (pc := 164) dX1_doInText_164 ?_
    refine r_iload4 (pc := 165) dX1_doInText_165 ?_
    refine r_callV2x (pc := 167) lk_X1_33 dX1_doInText_167 (bget0 rfl) (s_tryFlip hI hZ (x := d 1) (y := tw d 2) (by omega) (by omega)) (by decide) (Nat.le_of_ble_eq_true rfl) ⟨Nat.zero_le _, Nat.zero_le _⟩ (fun M9 h9 => ?_)
    obtain ⟨S, hI, rfl⟩ := h9
    exact ret 170 _ _ S _ dX1_doInText_170 hI rfl
  · have a1 := two 1 (by decide) (by decide)
    rw [a1.1]
    refine r_tableIn (pc := 40) 171 (by decide) (by decide) rfl (by decide) dX1_doInText_40 ?_
    refine r_aload0 (pc := 171) dX1_doInText_171 ?_
    refine r_iload5 (pc := 172) dX1_doInText_172 ?_
    refine r_callV1x (pc := 174) lk_X1_36 dX1_doInText_174 (bget0 rfl) (s_tryHold hI hZ (k := tw d 1) (by omega)) (by decide) (Nat.le_of_ble_eq_true rfl) ⟨Nat.zero_le _, Nat.zero_le _⟩ (fun M9 h9 => ?_)
    obtain ⟨S, hI, rfl⟩ := h9
    exact ret 177 _ _ S _ dX1_doInText_177 hI rfl
  · have a1 := two 1 (by decide) (by decide)
    have a3 := two 3 (by decide) (by decide)
    rw [a1.1, a3.1]
    refine r_tableIn (pc := 40) 178 (by decide) (by decide) rfl (by decide) dX1_doInText_40 ?_
    refine r_aload0 (pc := 178) dX1_doInText_178 ?_
    refine r_iload5 (pc := 179) dX1_doInText_179 ?_
    refine r_iload6 (pc := 181) dX1_doInText_181 ?_
    refine r_callV2w (pc := 183) lk_X1_39 dX1_doInText_183 (bget0 rfl) (s_fadeAll hI hZ (a := tw d 1) (c := tw d 3) a1.2 a3.2) (by decide) (Nat.le_of_ble_eq_true rfl) ⟨Nat.zero_le _, Nat.zero_le _⟩ (fun M9 h9 => ?_)
    obtain ⟨S, hI, rfl⟩ := h9
    refine n_iconst_1 (pc := 186) dX1_doInText_186 ?_
    exact ret 187 true _ S _ dX1_doInText_187 hI rfl
  · refine r_tableIn (pc := 40) 188 (by decide) (by decide) rfl (by decide) dX1_doInText_40 ?_
    refine r_aload0 (pc := 188) dX1_doInText_188 ?_
    refine r_callV0w (pc := 189) lk_X1_43 dX1_doInText_189 (bget0 rfl) (s_layAnew hI hZ) (by decide) (Nat.le_of_ble_eq_true rfl) ⟨Nat.zero_le _, Nat.zero_le _⟩ (fun M9 h9 => ?_)
    obtain ⟨S, hI, rfl⟩ := h9
    refine n_iconst_1 (pc := 192) dX1_doInText_192 ?_
    exact ret 193 true _ S _ dX1_doInText_193 hI rfl
  · have a1 := two 1 (by decide) (by decide)
    rw [a1.1]
    refine r_tableIn (pc := 40) 194 (by decide) (by decide) rfl (by decide) dX1_doInText_40 ?_
    refine r_aload0 (pc := 194) dX1_doInText_194 ?_
    refine r_iload5 (pc := 195) dX1_doInText_195 ?_
    refine r_callV1w (pc := 197) lk_X1_46 dX1_doInText_197 (bget0 rfl) (s_doBestChanges hI hZ (m := tw d 1) (by omega)) (by decide) (Nat.le_of_ble_eq_true rfl) ⟨Nat.zero_le _, Nat.zero_le _⟩ (fun M9 h9 => ?_)
    obtain ⟨S, hI, rfl⟩ := h9
    refine n_iconst_1 (pc := 200) dX1_doInText_200 ?_
    exact ret 201 true _ S _ dX1_doInText_201 hI rfl
end INTEXT
