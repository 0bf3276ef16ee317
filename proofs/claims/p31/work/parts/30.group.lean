/-- one command of a script -/
def gX (g : Nat) : Nat := g % 100000 / 10000
def gY (g : Nat) : Nat := g % 100000 / 100 % 100
def gK (g : Nat) : Nat := g % 100000 / 1000
def gM (g : Nat) : Nat := g % 100000 / 10 % 100
def gL (g : Nat) : Nat := g % 100000 % 10
def grpZ (z : ZS) (g : Nat) : Bool × ZS :=
  if g / 100000 = 1 then (canG z (gX g) (gY g) (g % 100000 % 100), aG z (gX g) (gY g) (g % 100000 % 100))
  else if g / 100000 = 2 then (if g % 100000 % 1000 = 0 then (canT z (gK g), aT z (gK g)) else (false, z))
  else if g / 100000 = 3 then (if gL g = 0 then (canS z (gK g) (gM g), aS z (gK g) (gM g)) else (false, z))
  else if g / 100000 = 4 then (if g % 100000 % 100 = 0 then ((flA z (gX g) (gY g)).isSome, flO z (flA z (gX g) (gY g))) else (false, z))
  else if g / 100000 = 5 then (if 1 ≤ g % 100000 ∧ g % 100000 ≤ 20 then (true, impZ (g % 100000) z) else (false, z))
  else if g / 100000 = 6 then (decide (gL g = 0 ∧ gK g < zt z ∧ gM g < zt z ∧ zT z (gK g) = gM g), z)
  else if g / 100000 = 7 then (decide (gM g = 0 ∧ gK g < zt z ∧ zU z (gK g) = gL g), z)
  else if g / 100000 = 8 then (decide (gL g = 0 ∧ gX g < zc z ∧ gY g < zr z ∧ pipZ z (gY g * zc z + gX g) = gM g % 10), z)
  else if g / 100000 = 9 then (decide (erAll z ≤ (g % 100000 : Nat)), z)
  else (false, z)
theorem grpZ_ok {z : ZS} (h : ZOK z) (g : Nat) : ZOK (grpZ z g).2 := by
  unfold grpZ
  split
  · exact aG_ok h _ _ _
  split
  · split
    · exact aT_ok h _
    · exact h
  split
  · split
    · exact aS_ok h _ _
    · exact h
  split
  · split
    · exact flO_ok h
    · exact h
  split
  · split
    · exact impZ_ok _ h
    · exact h
  split
  · exact h
  split
  · exact h
  split
  · exact h
  split
  · exact h
  · exact h
theorem pipZ_le {z : ZS} (h : ZOK z) {s : Nat} (hs : s < zq z) : pipZ z s ≤ 6 := by
  obtain ⟨hk, he⟩ := plZ_spec h hs
  have h1 := h.pips (h.t hk)
  have h2 := h.n
  unfold pipZ
  split <;> omega
section GROUP
variable {M : Mem} {b : Nat} {S : BS} {z : ZS}
set_option maxRecDepth 20000 in
theorem s_doGroup (hI : InvB S z) (hZ : ZOK z) {g : Nat} (hg : g < 1000000) : SpecP mX1_doGroup 6 0 0 [.ref b, .int (nI g)] (bset M b S) (tB (some (.int (bI (grpZ z g).1))) M b (grpZ z g).2) := by
  have hd := hZ.dims
  have kb : gK g < 100 := by unfold gK; omega
  have mb : gM g < 100 := by unfold gM; omega
  have lb : gL g < 10 := by unfold gL; omega
  have xb : gX g < 10 := by unfold gX; omega
  have yb : gY g < 100 := by unfold gY; omega
  refine Spec_of [some (.ref b), some (.int (nI g)), none, none, none, none, none, none] (by decide) (Nat.le_of_ble_eq_true rfl) rfl ?_
  have ret : ∀ (pc : Nat) (v : Bool) (w : ZS) (S : BS) (lv : List (Option Value)), dec mX1_doGroup pc = .ok (.ireturn, 1) → InvB S w → grpZ z g = (v, w) → G mX1_doGroup 6 (.inl false) 0 0 (tB (some (.int (bI (grpZ z g).1))) M b (grpZ z g).2) none 0 0 pc lv [.int (bI v)] (bset M b S) := by
    intro pc v w S lv h0 hI e2
    refine p_ireturn (pc := pc) false rfl rfl (nar_bI v) h0 (Nat.zero_le _) (Nat.zero_le _) (Or.inl rfl) ?_
    rw [e2]
    exact ⟨rfl, S, hI, rfl⟩
  refine r_iload1 (pc := 0) dX1_doGroup_0 ?_
  refine r_ldc (v := nI 100000) (pc := 1) (tG 990 (by decide +kernel) (by decide +kernel)) dX1_doGroup_1 ?_
  refine n_irem (pc := 3) dX1_doGroup_3 (by omega) (by omega) (by omega) ?_
  refine r_istore2 (pc := 4) dX1_doGroup_4 rfl ?_
  refine r_iload2 (pc := 5) dX1_doGroup_5 ?_
  refine n_sipush (pc := 6) 10000 (by decide) dX1_doGroup_6 ?_
  refine n_idiv (pc := 9) dX1_doGroup_9 (by omega) (by omega) (by omega) ?_
  refine r_istore3 (pc := 10) dX1_doGroup_10 rfl ?_
  refine r_iload2 (pc := 11) dX1_doGroup_11 ?_
  refine n_bipush (pc := 12) 100 (by decide) dX1_doGroup_12 ?_
  refine n_idiv (pc := 14) dX1_doGroup_14 (by omega) (by omega) (by omega) ?_
  refine n_bipush (pc := 15) 100 (by decide) dX1_doGroup_15 ?_
  refine n_irem (pc := 17) dX1_doGroup_17 (by omega) (by omega) (by omega) ?_
  refine r_istore4 (pc := 18) dX1_doGroup_18 rfl ?_
  refine r_iload2 (pc := 20) dX1_doGroup_20 ?_
  refine n_sipush (pc := 21) 1000 (by decide) dX1_doGroup_21 ?_
  refine n_idiv (pc := 24) dX1_doGroup_24 (by omega) (by omega) (by omega) ?_
  refine r_istore5 (pc := 25) dX1_doGroup_25 rfl ?_
  refine r_iload2 (pc := 27) dX1_doGroup_27 ?_
  refine n_bipush (pc := 28) 10 (by decide) dX1_doGroup_28 ?_
  refine n_idiv (pc := 30) dX1_doGroup_30 (by omega) (by omega) (by omega) ?_
  refine n_bipush (pc := 31) 100 (by decide) dX1_doGroup_31 ?_
  refine n_irem (pc := 33) dX1_doGroup_33 (by omega) (by omega) (by omega) ?_
  refine r_istore6 (pc := 34) dX1_doGroup_34 rfl ?_
  refine r_iload2 (pc := 36) dX1_doGroup_36 ?_
  refine n_bipush (pc := 37) 10 (by decide) dX1_doGroup_37 ?_
  refine n_irem (pc := 39) dX1_doGroup_39 (by omega) (by omega) (by omega) ?_
  refine r_istore7 (pc := 40) dX1_doGroup_40 rfl ?_
  refine r_iload1 (pc := 42) dX1_doGroup_42 ?_
  refine r_ldc (v := nI 100000) (pc := 43) (tG 990 (by decide +kernel) (by decide +kernel)) dX1_doGroup_43 ?_
  refine n_idiv (pc := 45) dX1_doGroup_45 (by omega) (by omega) (by omega) ?_
  have c : g / 100000 = 0 ∨ g / 100000 = 1 ∨ g / 100000 = 2 ∨ g / 100000 = 3 ∨ g / 100000 = 4 ∨ g / 100000 = 5 ∨ g / 100000 = 6 ∨ g / 100000 = 7 ∨ g / 100000 = 8 ∨ g / 100000 = 9 := by omega
  change G mX1_doGroup 6 (.inl false) 0 0 (tB (some (.int (bI (grpZ z g).1))) M b (grpZ z g).2) none 0 0 46 [some (.ref b), some (.int (nI g)), some (.int (nI (g % 100000))), some (.int (nI (gX g))), some (.int (nI (gY g))), some (.int (nI (gK g))), some (.int (nI (gM g))), some (.int (nI (gL g)))] [.int (nI (g / 100000))] (bset M b S)
  rcases c with c | c | c | c | c | c | c | c | c | c <;> rw [c]
  · refine r_tableOut (pc := 46) 329 (by decide) (by decide) dX1_doGroup_46 ?_
    refine n_iconst_0 (pc := 329) dX1_doGroup_329 ?_
    exact ret 330 false z S _ dX1_doGroup_330 hI (by unfold grpZ; simp [c])
  · refine r_tableIn (pc := 46) 96 (by decide) (by decide) rfl (by decide) dX1_doGroup_46 ?_
    refine r_aload0 (pc := 96) dX1_doGroup_96 ?_
    refine r_iload3 (pc := 97) dX1_doGroup_97 ?_
    refine r_iload4 (pc := 98) dX1_doGroup_98 ?_
    refine r_iload2 (pc := 100) dX1_doGroup_100 ?_
    refine n_bipush (pc := 101) 100 (by decide) dX1_doGroup_101 ?_
    refine n_irem (pc := 103) dX1_doGroup_103 (by omega) (by omega) (by omega) ?_
    refine r_callV3x (pc := 104) lk_X1_19 dX1_doGroup_104 (bget0 rfl) (s_tryGrey hI hZ (x := gX g) (y := gY g) (g := g % 100000 % 100) (by omega) (by omega) (by omega)) (by decide) (Nat.le_of_ble_eq_true rfl) ⟨Nat.zero_le _, Nat.zero_le _⟩ (fun M9 h9 => ?_)
    obtain ⟨S, hI, rfl⟩ := h9
    exact ret 107 _ _ S _ dX1_doGroup_107 hI (by unfold grpZ; rw [if_pos c]; rfl)
  · refine r_tableIn (pc := 46) 108 (by decide) (by decide) rfl (by decide) dX1_doGroup_46 ?_
    refine r_iload2 (pc := 108) dX1_doGroup_108 ?_
    refine n_sipush (pc := 109) 1000 (by decide) dX1_doGroup_109 ?_
    refine n_irem (pc := 112) dX1_doGroup_112 (by omega) (by omega) (by omega) ?_
    refine n_if_ne (pc := 113) 129 (by decide) dX1_doGroup_113 (by omega) (fun h9 => ?_) (fun h9 => ?_)
    · refine n_iconst_0 (pc := 129) dX1_doGroup_129 ?_
      exact ret 130 false z S _ dX1_doGroup_130 hI (by unfold grpZ; simp only [c]; exact if_neg h9)
    · refine r_aload0 (pc := 116) dX1_doGroup_116 ?_
      refine r_iload5 (pc := 117) dX1_doGroup_117 ?_
      refine r_callV1x (pc := 119) lk_X1_25 dX1_doGroup_119 (bget0 rfl) (s_tryTurn hI hZ (k := gK g) (by omega)) (by decide) (Nat.le_of_ble_eq_true rfl) ⟨Nat.zero_le _, Nat.zero_le _⟩ (fun M9 h9 => ?_)
      obtain ⟨S, hI, rfl⟩ := h9
      refine b_if_eq (pc := 122) 129 (by decide) dX1_doGroup_122 (fun h8 => ?_) (fun h8 => ?_)
      · refine n_iconst_0 (pc := 129) dX1_doGroup_129 ?_
        exact ret 130 false _ S _ dX1_doGroup_130 hI (by unfold grpZ aT; simp [c, h9, h8])
      · refine n_iconst_1 (pc := 125) dX1_doGroup_125 ?_
        refine r_goto (pc := 126) 130 (by decide) dX1_doGroup_126 ?_
        exact ret 130 true _ S _ dX1_doGroup_130 hI (by unfold grpZ aT; simp [c, h9, h8])
  · refine r_tableIn (pc := 46) 131 (by decide) (by decide) rfl (by decide) dX1_doGroup_46 ?_
    refine r_iload7 (pc := 131) dX1_doGroup_131 ?_
    refine n_if_ne (pc := 133) 151 (by decide) dX1_doGroup_133 (by omega) (fun h9 => ?_) (fun h9 => ?_)
    · refine n_iconst_0 (pc := 151) dX1_doGroup_151 ?_
      exact ret 152 false z S _ dX1_doGroup_152 hI (by unfold grpZ; simp only [c]; exact if_neg h9)
    · refine r_aload0 (pc := 136) dX1_doGroup_136 ?_
      refine r_iload5 (pc := 137) dX1_doGroup_137 ?_
      refine r_iload6 (pc := 139) dX1_doGroup_139 ?_
      refine r_callV2x (pc := 141) lk_X1_29 dX1_doGroup_141 (bget0 rfl) (s_trySwap hI hZ (j := gK g) (k := gM g) (by omega) (by omega)) (by decide) (Nat.le_of_ble_eq_true rfl) ⟨Nat.zero_le _, Nat.zero_le _⟩ (fun M9 h9 => ?_)
      obtain ⟨S, hI, rfl⟩ := h9
      refine b_if_eq (pc := 144) 151 (by decide) dX1_doGroup_144 (fun h8 => ?_) (fun h8 => ?_)
      · refine n_iconst_0 (pc := 151) dX1_doGroup_151 ?_
        exact ret 152 false _ S _ dX1_doGroup_152 hI (by unfold grpZ aS; simp [c, h9, h8])
      · refine n_iconst_1 (pc := 147) dX1_doGroup_147 ?_
        refine r_goto (pc := 148) 152 (by decide) dX1_doGroup_148 ?_
        exact ret 152 true _ S _ dX1_doGroup_152 hI (by unfold grpZ aS; simp [c, h9, h8])
  · refine r_tableIn (pc := 46) 153 (by decide) (by decide) rfl (by decide) dX1_doGroup_46 ?_
    refine r_iload2 (pc := 153) dX1_doGroup_153 ?_
    refine n_bipush (pc := 154) 100 (by decide) dX1_doGroup_154 ?_
    refine n_irem (pc := 156) dX1_doGroup_156 (by omega) (by omega) (by omega) ?_
    refine n_if_ne (pc := 157) 174 (by decide) dX1_doGroup_157 (by omega) (fun h9 => ?_) (fun h9 => ?_)
    · refine n_iconst_0 (pc := 174) dX1_doGroup_174 ?_
      exact ret 175 false z S _ dX1_doGroup_175 hI (by unfold grpZ; simp only [c]; exact if_neg h9)
    · refine r_aload0 (pc := 160) dX1_doGroup_160 ?_
      refine r_iload3 (pc := 161) dX1_doGroup_161 ?_
      refine r_iload4 (pc := 162) dX1_doGroup_162 ?_
      refine r_callV2x (pc := 164) lk_X1_33 dX1_doGroup_164 (bget0 rfl) (s_tryFlip hI hZ (x := gX g) (y := gY g) (by omega) (by omega)) (by decide) (Nat.le_of_ble_eq_true rfl) ⟨Nat.zero_le _, Nat.zero_le _⟩ (fun M9 h9 => ?_)
      obtain ⟨S, hI, rfl⟩ := h9
      refine b_if_eq (pc := 167) 174 (by decide) dX1_doGroup_167 (fun h8 => ?_) (fun h8 => ?_)
      · refine n_iconst_0 (pc := 174) dX1_doGroup_174 ?_
        exact ret 175 false _ S _ dX1_doGroup_175 hI (by unfold grpZ; simp only [c, h9]; rw [h8]; rfl)
      · refine n_iconst_1 (pc := 170) dX1_doGroup_170 ?_
        refine r_goto (pc := 171) 175 (by decide) dX1_doGroup_171 ?_
        exact ret 175 true _ S _ dX1_doGroup_175 hI (by unfold grpZ; simp only [c, h9]; rw [h8]; rfl)
  · refine r_tableIn (pc := 46) 176 (by decide) (by decide) rfl (by decide) dX1_doGroup_46 ?_
    refine r_iload2 (pc := 176) dX1_doGroup_176 ?_
    refine r_callN1i (pc := 177) lk_X1_51 dX1_doGroup_177 (s_isCountOfChanges (by omega)) (by decide) (Nat.le_of_ble_eq_true rfl) ⟨Nat.zero_le _, Nat.zero_le _⟩ ?_
    refine b_if_ne (pc := 180) 185 (by decide) dX1_doGroup_180 (fun h9 => ?_) (fun h9 => ?_)
    · refine r_aload0 (pc := 185) dX1_doGroup_185 ?_
      refine r_iload2 (pc := 186) dX1_doGroup_186 ?_
      refine r_callV1w (pc := 187) lk_X1_46 dX1_doGroup_187 (bget0 rfl) (s_doBestChanges hI hZ (m := g % 100000) (by omega)) (by decide) (Nat.le_of_ble_eq_true rfl) ⟨Nat.zero_le _, Nat.zero_le _⟩ (fun M9 h9 => ?_)
      obtain ⟨S, hI, rfl⟩ := h9
      refine n_iconst_1 (pc := 190) dX1_doGroup_190 ?_
      exact ret 191 true _ S _ dX1_doGroup_191 hI (by unfold grpZ; simp only [c]; exact if_pos (of_decide_eq_true h9))
    · refine n_iconst_0 (pc := 183) dX1_doGroup_183 ?_
      exact ret 184 false z S _ dX1_doGroup_184 hI (by unfold grpZ; simp only [c]; exact if_neg (of_decide_eq_false h9))
  · have e0 : grpZ z g = (decide (gL g = 0 ∧ gK g < zt z ∧ gM g < zt z ∧ zT z (gK g) = gM g), z) := by unfold grpZ; simp only [c]; rfl
    have no : ¬ (gL g = 0 ∧ gK g < zt z ∧ gM g < zt z ∧ zT z (gK g) = gM g) →
      G mX1_doGroup 6 (.inl false) 0 0 (tB (some (.int (bI (grpZ z g).1))) M b (grpZ z g).2) none 0 0 236 [some (.ref b), some (.int (nI g)), some (.int (nI (g % 100000))), some (.int (nI (gX g))), some (.int (nI (gY g))), some (.int (nI (gK g))), some (.int (nI (gM g))), some (.int (nI (gL g)))] [] (bset M b S)
      := by
      intro hn
      refine n_iconst_0 (pc := 236) dX1_doGroup_236 ?_
      exact ret 237 false z S _ dX1_doGroup_237 hI (by rw [e0, decide_eq_false hn])
    refine r_tableIn (pc := 46) 192 (by decide) (by decide) rfl (by decide) dX1_doGroup_46 ?_
    refine r_iload7 (pc := 192) dX1_doGroup_192 ?_
    refine n_if_ne (pc := 194) 236 (by decide) dX1_doGroup_194 (by omega) (fun h1 => no (fun h => h1 h.1)) (fun h1 => ?_)
    refine r_aload0 (pc := 197) dX1_doGroup_197 ?_
    refine r_iload5 (pc := 198) dX1_doGroup_198 ?_
    refine r_callV1i (pc := 200) lk_X1_56 dX1_doGroup_200 (bget0 rfl) (s_hasPlace hI hZ) (by decide) (Nat.le_of_ble_eq_true rfl) ⟨Nat.zero_le _, Nat.zero_le _⟩ ?_
    rw [inR_nI (by omega) (by omega)]
    refine b_if_eq (pc := 203) 236 (by decide) dX1_doGroup_203 (fun h2 => no (fun h => of_decide_eq_false h2 h.2.1)) (fun h2 => ?_)
    have h2 := of_decide_eq_true h2
    refine r_aload0 (pc := 206) dX1_doGroup_206 ?_
    refine r_iload6 (pc := 207) dX1_doGroup_207 ?_
    refine r_callV1i (pc := 209) lk_X1_59 dX1_doGroup_209 (bget0 rfl) (s_hasTile hI hZ) (by decide) (Nat.le_of_ble_eq_true rfl) ⟨Nat.zero_le _, Nat.zero_le _⟩ ?_
    rw [inR_nI (by omega) (by omega)]
    refine b_if_eq (pc := 212) 236 (by decide) dX1_doGroup_212 (fun h3 => no (fun h => of_decide_eq_false h3 h.2.2.1)) (fun h3 => ?_)
    have h3 := of_decide_eq_true h3
    have ht := hZ.t h2
    refine r_aload0 (pc := 215) dX1_doGroup_215 ?_
    refine r_getf (pc := 216) fl_X1_62 dX1_doGroup_216 (bget0 rfl) rfl ?_
    refine r_getf (pc := 219) fl_X1_66 dX1_doGroup_219 (bget rfl) rfl ?_
    refine r_iload5 (pc := 222) dX1_doGroup_222 ?_
    refine r_callN2i (pc := 224) lk_X1_72 dX1_doGroup_224 (s_at (bget rfl) (by omega) (by decide) (hI.T h2)) (by decide) (Nat.le_of_ble_eq_true rfl) ⟨Nat.zero_le _, Nat.zero_le _⟩ ?_
    refine r_iload6 (pc := 227) dX1_doGroup_227 ?_
    refine n_icmp_ne (pc := 229) 236 (by decide) dX1_doGroup_229 (by omega) (by omega) (fun h4 => no (fun h => h4 h.2.2.2)) (fun h4 => ?_)
    refine n_iconst_1 (pc := 232) dX1_doGroup_232 ?_
    refine r_goto (pc := 233) 237 (by decide) dX1_doGroup_233 ?_
    exact ret 237 true z S _ dX1_doGroup_237 hI (by rw [e0, decide_eq_true ⟨h1, h2, h3, h4⟩])
  · have e0 : grpZ z g = (decide (gM g = 0 ∧ gK g < zt z ∧ zU z (gK g) = gL g), z) := by unfold grpZ; simp only [c]; rfl
    have no : ¬ (gM g = 0 ∧ gK g < zt z ∧ zU z (gK g) = gL g) →
      G mX1_doGroup 6 (.inl false) 0 0 (tB (some (.int (bI (grpZ z g).1))) M b (grpZ z g).2) none 0 0 273 [some (.ref b), some (.int (nI g)), some (.int (nI (g % 100000))), some (.int (nI (gX g))), some (.int (nI (gY g))), some (.int (nI (gK g))), some (.int (nI (gM g))), some (.int (nI (gL g)))] [] (bset M b S)
      := by
      intro hn
      refine n_iconst_0 (pc := 273) dX1_doGroup_273 ?_
      exact ret 274 false z S _ dX1_doGroup_274 hI (by rw [e0, decide_eq_false hn])
    refine r_tableIn (pc := 46) 238 (by decide) (by decide) rfl (by decide) dX1_doGroup_46 ?_
    refine r_iload6 (pc := 238) dX1_doGroup_238 ?_
    refine n_if_ne (pc := 240) 273 (by decide) dX1_doGroup_240 (by omega) (fun h1 => no (fun h => h1 h.1)) (fun h1 => ?_)
    refine r_aload0 (pc := 243) dX1_doGroup_243 ?_
    refine r_iload5 (pc := 244) dX1_doGroup_244 ?_
    refine r_callV1i (pc := 246) lk_X1_56 dX1_doGroup_246 (bget0 rfl) (s_hasPlace hI hZ) (by decide) (Nat.le_of_ble_eq_true rfl) ⟨Nat.zero_le _, Nat.zero_le _⟩ ?_
    rw [inR_nI (by omega) (by omega)]
    refine b_if_eq (pc := 249) 273 (by decide) dX1_doGroup_249 (fun h2 => no (fun h => of_decide_eq_false h2 h.2.1)) (fun h2 => ?_)
    have h2 := of_decide_eq_true h2
    have hu := hZ.u h2
    refine r_aload0 (pc := 252) dX1_doGroup_252 ?_
    refine r_getf (pc := 253) fl_X1_62 dX1_doGroup_253 (bget0 rfl) rfl ?_
    refine r_getf (pc := 256) fl_X1_76 dX1_doGroup_256 (bget rfl) rfl ?_
    refine r_iload5 (pc := 259) dX1_doGroup_259 ?_
    refine r_callN2i (pc := 261) lk_X1_72 dX1_doGroup_261 (s_at (bget rfl) (by omega) (by decide) (hI.U h2)) (by decide) (Nat.le_of_ble_eq_true rfl) ⟨Nat.zero_le _, Nat.zero_le _⟩ ?_
    refine r_iload7 (pc := 264) dX1_doGroup_264 ?_
    refine n_icmp_ne (pc := 266) 273 (by decide) dX1_doGroup_266 (by omega) (by omega) (fun h4 => no (fun h => h4 h.2.2)) (fun h4 => ?_)
    refine n_iconst_1 (pc := 269) dX1_doGroup_269 ?_
    refine r_goto (pc := 270) 274 (by decide) dX1_doGroup_270 ?_
    exact ret 274 true z S _ dX1_doGroup_274 hI (by rw [e0, decide_eq_true ⟨h1, h2, h4⟩])
  · have e0 : grpZ z g = (decide (gL g = 0 ∧ gX g < zc z ∧ gY g < zr z ∧ pipZ z (gY g * zc z + gX g) = gM g % 10), z) := by unfold grpZ; simp only [c]; rfl
    have no : ¬ (gL g = 0 ∧ gX g < zc z ∧ gY g < zr z ∧ pipZ z (gY g * zc z + gX g) = gM g % 10) →
      G mX1_doGroup 6 (.inl false) 0 0 (tB (some (.int (bI (grpZ z g).1))) M b (grpZ z g).2) none 0 0 313 [some (.ref b), some (.int (nI g)), some (.int (nI (g % 100000))), some (.int (nI (gX g))), some (.int (nI (gY g))), some (.int (nI (gK g))), some (.int (nI (gM g))), some (.int (nI (gL g)))] [] (bset M b S)
      := by
      intro hn
      refine n_iconst_0 (pc := 313) dX1_doGroup_313 ?_
      exact ret 314 false z S _ dX1_doGroup_314 hI (by rw [e0, decide_eq_false hn])
    refine r_tableIn (pc := 46) 275 (by decide) (by decide) rfl (by decide) dX1_doGroup_46 ?_
    refine r_iload7 (pc := 275) dX1_doGroup_275 ?_
    refine n_if_ne (pc := 277) 313 (by decide) dX1_doGroup_277 (by omega) (fun h1 => no (fun h => h1 h.1)) (fun h1 => ?_)
    refine r_aload0 (pc := 280) dX1_doGroup_280 ?_
    refine r_iload3 (pc := 281) dX1_doGroup_281 ?_
    refine r_iload4 (pc := 282) dX1_doGroup_282 ?_
    refine r_callV2i (pc := 284) lk_X1_79 dX1_doGroup_284 (bget0 rfl) (s_hasSquare hI hZ) (by decide) (Nat.le_of_ble_eq_true rfl) ⟨Nat.zero_le _, Nat.zero_le _⟩ ?_
    rw [inR_nI (by omega) (by omega), inR_nI (by omega) (by omega)]
    refine b_if_eq (pc := 287) 313 (by decide) dX1_doGroup_287 (fun h2 => no (fun h => by simp [h.2.1, h.2.2.1] at h2)) (fun h2 => ?_)
    have h3 : gX g < zc z ∧ gY g < zr z := by simpa using h2
    have hq : gY g * zc z + gX g < zq z := by
      have h4 : gY g * zc z + zc z ≤ zr z * zc z := by rw [← Nat.succ_mul]; exact Nat.mul_le_mul_right _ h3.2
      have h5 : zq z = zr z * zc z := Nat.mul_comm _ _
      omega
    have hpz := pipZ_le hZ hq
    refine r_aload0 (pc := 290) dX1_doGroup_290 ?_
    refine r_aload0 (pc := 291) dX1_doGroup_291 ?_
    refine r_iload3 (pc := 292) dX1_doGroup_292 ?_
    refine r_iload4 (pc := 293) dX1_doGroup_293 ?_
    refine r_callV2i (pc := 295) lk_X1_82 dX1_doGroup_295 (bget0 rfl) (s_squareAt hI) (by decide) (Nat.le_of_ble_eq_true rfl) ⟨Nat.zero_le _, Nat.zero_le _⟩ ?_
    refine r_callV1i (pc := 298) lk_X1_86 dX1_doGroup_298 (bget0 rfl) (s_pipsOn hI hZ hq) (by decide) (Nat.le_of_ble_eq_true rfl) ⟨Nat.zero_le _, Nat.zero_le _⟩ ?_
    refine r_iload6 (pc := 301) dX1_doGroup_301 ?_
    refine n_bipush (pc := 303) 10 (by decide) dX1_doGroup_303 ?_
    refine n_irem (pc := 305) dX1_doGroup_305 (by omega) (by omega) (by omega) ?_
    refine n_icmp_ne (pc := 306) 313 (by decide) dX1_doGroup_306 (by omega) (by omega) (fun h4 => no (fun h => h4 h.2.2.2)) (fun h4 => ?_)
    refine n_iconst_1 (pc := 309) dX1_doGroup_309 ?_
    refine r_goto (pc := 310) 314 (by decide) dX1_doGroup_310 ?_
    exact ret 314 true z S _ dX1_doGroup_314 hI (by rw [e0, decide_eq_true ⟨h1, h3.1, h3.2, h4⟩])
  · have e0 : grpZ z g = (decide (erAll z ≤ (g % 100000 : Nat)), z) := by unfold grpZ; simp only [c]; rfl
    have hb9 := hZ.erAllN (zt z) (Nat.le_refl _)
    have hb8 : 0 ≤ erAll z ∧ erAll z ≤ 1097712 := hb9
    refine r_tableIn (pc := 46) 315 (by decide) (by decide) rfl (by decide) dX1_doGroup_46 ?_
    refine r_aload0 (pc := 315) dX1_doGroup_315 ?_
    refine r_callV0i (pc := 316) lk_X1_89 dX1_doGroup_316 (bget0 rfl) (s_errorOfAll hI hZ) (by decide) (Nat.le_of_ble_eq_true rfl) ⟨Nat.zero_le _, Nat.zero_le _⟩ ?_
    refine r_iload2 (pc := 319) dX1_doGroup_319 ?_
    refine z_icmp_gt (a := erAll z) (b := ((g % 100000 : Nat) : Int)) (pc := 320) 327 (by decide) dX1_doGroup_320 (by omega) (by omega) (by omega) (by omega) (fun h4 => ?_) (fun h4 => ?_)
    · refine n_iconst_0 (pc := 327) dX1_doGroup_327 ?_
      exact ret 328 false z S _ dX1_doGroup_328 hI (by rw [e0, decide_eq_false (by omega)])
    · refine n_iconst_1 (pc := 323) dX1_doGroup_323 ?_
      refine r_goto (pc := 324) 328 (by decide) dX1_doGroup_324 ?_
      exact ret 328 true z S _ dX1_doGroup_328 hI (by rw [e0, decide_eq_true (by omega)])
end GROUP
