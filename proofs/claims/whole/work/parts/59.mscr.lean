/-- the trial row changed to the portrait z -/
def tQ (r : Option Value) (M : Mem) (b : Nat) (S : BS) (z : ZS) : TG := tP r (fun Mf => ∃ S', KS S S' ∧ InvR (S'.2 2) z ∧ Mf = kset M b S')
theorem KS.im {S : BS} (v w u : Int32) (f : Nat → Int32) : KS S (imS S 2 v w u f) := (((KS.rf S).ii (i := 3) (by omega) v).ii (i := 4) (by omega) w |>.ii (i := 5) (by omega) u).i2 f
theorem KS.la {S : BS} (L f : Nat → Int32) : KS S (ia (ia S 6 L) 2 f) := ((KS.rf S).i6 L).i2 f
section MSCR
variable {M : Mem} {b : Nat} {S : BS} {z : ZS} {w : WS}
set_option maxRecDepth 20000 in
set_option maxHeartbeats 1600000 in
theorem s8_command (hI : InvR (S.2 2) z) (hZ : ZOK z) {g : Nat} (hg : g < 1000000) : SpecP mX8_command 10 0 0 [.ref b, .int (nI (g / 100000)), .int (nI (g % 100000))] (kset M b S) (tQ (some (.int (bI (grpZ z g).1))) M b S (grpZ z g).2) := by
  have hd := hZ.dims
  have kb : gK g < 100 := by unfold gK; omega
  have mb : gM g < 100 := by unfold gM; omega
  have lb : gL g < 10 := by unfold gL; omega
  have xb : gX g < 10 := by unfold gX; omega
  have yb : gY g < 100 := by unfold gY; omega
  have hM : kset M b S (b + 3) = some (cI 563 (S.2 2)) := kget rfl
  refine Spec_of [some (.ref b), some (.int (nI (g / 100000))), some (.int (nI (g % 100000))), none, none, none, none, none, none, none] (by decide) (Nat.le_of_ble_eq_true rfl) rfl ?_
  have ret : ∀ (pc : Nat) (v : Bool) (y : ZS) (S1 : BS) (lv : List (Option Value)), dec mX8_command pc = .ok (.ireturn, 1) → KS S S1 → InvR (S1.2 2) y → grpZ z g = (v, y) → G mX8_command 10 (.inl false) 0 0 (tQ (some (.int (bI (grpZ z g).1))) M b S (grpZ z g).2) none 0 0 pc lv [.int (bI v)] (kset M b S1) := by
    intro pc v y S1 lv h0 k1 k2 e2
    refine p_ireturn (pc := pc) false rfl rfl (nar_bI v) h0 (Nat.zero_le _) (Nat.zero_le _) (Or.inl rfl) ?_
    rw [e2]
    exact ⟨rfl, S1, k1, k2, rfl⟩
  refine r_iload2 (pc := 0) dX8_command_0 ?_
  refine n_sipush (pc := 1) 10000 (by decide) dX8_command_1 ?_
  refine n_idiv (pc := 4) dX8_command_4 (by omega) (by omega) (by omega) ?_
  refine r_istore3 (pc := 5) dX8_command_5 rfl ?_
  refine r_iload2 (pc := 6) dX8_command_6 ?_
  refine n_bipush (pc := 7) 100 (by decide) dX8_command_7 ?_
  refine n_idiv (pc := 9) dX8_command_9 (by omega) (by omega) (by omega) ?_
  refine n_bipush (pc := 10) 100 (by decide) dX8_command_10 ?_
  refine n_irem (pc := 12) dX8_command_12 (by omega) (by omega) (by omega) ?_
  refine r_istore4 (pc := 13) dX8_command_13 rfl ?_
  refine r_iload2 (pc := 15) dX8_command_15 ?_
  refine n_bipush (pc := 16) 100 (by decide) dX8_command_16 ?_
  refine n_irem (pc := 18) dX8_command_18 (by omega) (by omega) (by omega) ?_
  refine r_istore5 (pc := 19) dX8_command_19 rfl ?_
  refine r_iload2 (pc := 21) dX8_command_21 ?_
  refine n_sipush (pc := 22) 1000 (by decide) dX8_command_22 ?_
  refine n_idiv (pc := 25) dX8_command_25 (by omega) (by omega) (by omega) ?_
  refine r_istore6 (pc := 26) dX8_command_26 rfl ?_
  refine r_iload2 (pc := 28) dX8_command_28 ?_
  refine n_bipush (pc := 29) 10 (by decide) dX8_command_29 ?_
  refine n_idiv (pc := 31) dX8_command_31 (by omega) (by omega) (by omega) ?_
  refine n_bipush (pc := 32) 100 (by decide) dX8_command_32 ?_
  refine n_irem (pc := 34) dX8_command_34 (by omega) (by omega) (by omega) ?_
  refine r_istore7 (pc := 35) dX8_command_35 rfl ?_
  refine r_iload2 (pc := 37) dX8_command_37 ?_
  refine n_bipush (pc := 38) 10 (by decide) dX8_command_38 ?_
  refine n_irem (pc := 40) dX8_command_40 (by omega) (by omega) (by omega) ?_
  refine r_istore8 (pc := 41) dX8_command_41 rfl ?_
  refine r_iload5 (pc := 43) dX8_command_43 ?_
  refine n_bipush (pc := 45) 10 (by decide) dX8_command_45 ?_
  refine n_idiv (pc := 47) dX8_command_47 (by omega) (by omega) (by omega) ?_
  refine r_istore9 (pc := 48) dX8_command_48 rfl ?_
  refine r_iload1 (pc := 50) dX8_command_50 ?_
  change G mX8_command 10 (.inl false) 0 0 (tQ (some (.int (bI (grpZ z g).1))) M b S (grpZ z g).2) none 0 0 51 [some (.ref b), some (.int (nI (g / 100000))), some (.int (nI (g % 100000))), some (.int (nI (gX g))), some (.int (nI (gY g))), some (.int (nI (g % 100000 % 100))), some (.int (nI (gK g))), some (.int (nI (gM g))), some (.int (nI (gL g))), some (.int (nI (g % 100000 % 100 / 10)))] [.int (nI (g / 100000))] (kset M b S)
  have c : g / 100000 = 0 ∨ g / 100000 = 1 ∨ g / 100000 = 2 ∨ g / 100000 = 3 ∨ g / 100000 = 4 ∨ g / 100000 = 5 ∨ g / 100000 = 6 ∨ g / 100000 = 7 ∨ g / 100000 = 8 ∨ g / 100000 = 9 := by omega
  rcases c with c | c | c | c | c | c | c | c | c | c <;> rw [c]
  · refine r_tableOut (pc := 51) 417 (Or.inl (by decide)) (by decide) dX8_command_51 ?_
    refine n_iconst_0 (pc := 417) dX8_command_417 ?_
    exact ret 418 false z S _ dX8_command_418 (KS.rf S) hI (by unfold grpZ; simp [c])
  · have e0 : grpZ z g = (canG z (gX g) (gY g) (g % 100000 % 100), aG z (gX g) (gY g) (g % 100000 % 100)) := if_pos c
    refine r_tableIn (pc := 51) 100 (by decide) (by decide) rfl (by decide) dX8_command_51 ?_
    refine r_aload0 (pc := 100) dX8_command_100 ?_
    refine r_getf (pc := 101) fl_X8_16 dX8_command_101 (kget0 rfl) rfl ?_
    refine r_iload3 (pc := 104) dX8_command_104 ?_
    refine r_iload4 (pc := 105) dX8_command_105 ?_
    refine r_callS3i (pc := 107) lk_X8_158 dX8_command_107 (s8_isSquare hM hI hZ) (by decide) (Nat.le_of_ble_eq_true rfl) ⟨Nat.zero_le _, Nat.zero_le _⟩ ?_
    rw [inR_nI (by omega) (by omega), inR_nI (by omega) (by omega)]
    refine b_if_eq (pc := 110) 132 (by decide) dX8_command_110 (fun h1 => ?_) (fun h1 => ?_)
    · have ec : canG z (gX g) (gY g) (g % 100000 % 100) = false := by unfold canG; rw [h1]; rfl
      refine n_iconst_0 (pc := 132) dX8_command_132 ?_
      exact ret 133 false z S _ dX8_command_133 (KS.rf S) hI (by rw [e0, ec]; unfold aG; rw [ec]; rfl)
    · have h3 : gX g < zc z ∧ gY g < zr z := by simpa using h1
      have ec : canG z (gX g) (gY g) (g % 100000 % 100) = true := by
        unfold canG; rw [h1]; simpa using (show g % 100000 % 100 < 100 by omega)
      have hgr := hZ.g (sq_in h3.1 h3.2)
      have em : gY g * zc z + gX g = zc z * gY g + gX g := by rw [Nat.mul_comm]
      refine r_aload0 (pc := 113) dX8_command_113 ?_
      refine r_getf (pc := 114) fl_X8_16 dX8_command_114 (kget0 rfl) rfl ?_
      refine r_iload3 (pc := 117) dX8_command_117 ?_
      refine r_iload4 (pc := 118) dX8_command_118 ?_
      refine r_iload5 (pc := 120) dX8_command_120 ?_
      refine r_callS4x (pc := 122) lk_X8_195 dX8_command_122 (hK2.to (M := M) (b := b) (S := S) (s8_greyOn (g := g % 100000 % 100) hI hZ h3.1 h3.2))  (by decide) (Nat.le_of_ble_eq_true rfl) ⟨Nat.zero_le _, Nat.zero_le _⟩ (fun M9 h9 => ?_)
      obtain ⟨f', hI', rfl⟩ := h9
      rw [em]
      refine n_if_lt (pc := 125) 132 (by decide) dX8_command_125 (by omega) ?_
      refine n_iconst_1 (pc := 128) dX8_command_128 ?_
      refine r_goto (pc := 129) 133 (by decide) dX8_command_129 ?_
      exact ret 133 true _ _ _ dX8_command_133 ((KS.rf S).i2 f') hI' (by rw [e0, ec]; unfold aG; rw [ec]; rfl)
  · have e0 : grpZ z g = if g % 100000 % 1000 = 0 then (canT z (gK g), aT z (gK g)) else (false, z) := by unfold grpZ; rw [if_neg (by omega), if_pos c]
    refine r_tableIn (pc := 51) 134 (by decide) (by decide) rfl (by decide) dX8_command_51 ?_
    refine r_iload2 (pc := 134) dX8_command_134 ?_
    refine n_sipush (pc := 135) 1000 (by decide) dX8_command_135 ?_
    refine n_irem (pc := 138) dX8_command_138 (by omega) (by omega) (by omega) ?_
    refine n_if_ne (pc := 139) 159 (by decide) dX8_command_139 (by omega) (fun h9 => ?_) (fun h9 => ?_)
    · refine n_iconst_0 (pc := 159) dX8_command_159 ?_
      exact ret 160 false z S _ dX8_command_160 (KS.rf S) hI (by rw [e0, if_neg h9])
    · refine r_aload0 (pc := 142) dX8_command_142 ?_
      refine r_aload0 (pc := 143) dX8_command_143 ?_
      refine r_getf (pc := 144) fl_X8_16 dX8_command_144 (kget0 rfl) rfl ?_
      refine r_iload6 (pc := 147) dX8_command_147 ?_
      refine r_callV2x (pc := 149) lk_X8_209 dX8_command_149 (kget0 rfl) (s8_turnedOne (M := M) (b := b) (S := S) hK2 hI hZ (k := gK g) (by omega))  (by decide) (Nat.le_of_ble_eq_true rfl) ⟨Nat.zero_le _, Nat.zero_le _⟩ (fun M9 h9 => ?_)
      obtain ⟨f', hI', rfl⟩ := h9
      refine b_if_eq (pc := 152) 159 (by decide) dX8_command_152 (fun h8 => ?_) (fun h8 => ?_)
      · refine n_iconst_0 (pc := 159) dX8_command_159 ?_
        exact ret 160 false _ _ _ dX8_command_160 ((KS.rf S).i2 f') hI' (by rw [e0, if_pos h9, h8])
      · refine n_iconst_1 (pc := 155) dX8_command_155 ?_
        refine r_goto (pc := 156) 160 (by decide) dX8_command_156 ?_
        exact ret 160 true _ _ _ dX8_command_160 ((KS.rf S).i2 f') hI' (by rw [e0, if_pos h9, h8])
  · have e0 : grpZ z g = if gL g = 0 then (canS z (gK g) (gM g), aS z (gK g) (gM g)) else (false, z) := by unfold grpZ; rw [if_neg (by omega), if_neg (by omega), if_pos c]
    refine r_tableIn (pc := 51) 161 (by decide) (by decide) rfl (by decide) dX8_command_51 ?_
    refine r_iload8 (pc := 161) dX8_command_161 ?_
    refine n_if_ne (pc := 163) 185 (by decide) dX8_command_163 (by omega) (fun h9 => ?_) (fun h9 => ?_)
    · refine n_iconst_0 (pc := 185) dX8_command_185 ?_
      exact ret 186 false z S _ dX8_command_186 (KS.rf S) hI (by rw [e0, if_neg h9])
    · refine r_aload0 (pc := 166) dX8_command_166 ?_
      refine r_aload0 (pc := 167) dX8_command_167 ?_
      refine r_getf (pc := 168) fl_X8_16 dX8_command_168 (kget0 rfl) rfl ?_
      refine r_iload6 (pc := 171) dX8_command_171 ?_
      refine r_iload7 (pc := 173) dX8_command_173 ?_
      refine r_callV3x (pc := 175) lk_X8_212 dX8_command_175 (kget0 rfl) (s8_swapped (M := M) (b := b) (S := S) hK2 hI hZ (j := gK g) (k := gM g) (by omega) (by omega))  (by decide) (Nat.le_of_ble_eq_true rfl) ⟨Nat.zero_le _, Nat.zero_le _⟩ (fun M9 h9 => ?_)
      obtain ⟨f', hI', rfl⟩ := h9
      refine b_if_eq (pc := 178) 185 (by decide) dX8_command_178 (fun h8 => ?_) (fun h8 => ?_)
      · refine n_iconst_0 (pc := 185) dX8_command_185 ?_
        exact ret 186 false _ _ _ dX8_command_186 ((KS.rf S).i2 f') hI' (by rw [e0, if_pos h9, h8])
      · refine n_iconst_1 (pc := 181) dX8_command_181 ?_
        refine r_goto (pc := 182) 186 (by decide) dX8_command_182 ?_
        exact ret 186 true _ _ _ dX8_command_186 ((KS.rf S).i2 f') hI' (by rw [e0, if_pos h9, h8])
  · have e0 : grpZ z g = if g % 100000 % 100 = 0 then ((flA z (gX g) (gY g)).isSome, flO z (flA z (gX g) (gY g))) else (false, z) := by unfold grpZ; rw [if_neg (by omega), if_neg (by omega), if_neg (by omega), if_pos c]
    refine r_tableIn (pc := 51) 187 (by decide) (by decide) rfl (by decide) dX8_command_51 ?_
    refine r_iload5 (pc := 187) dX8_command_187 ?_
    refine n_if_ne (pc := 189) 210 (by decide) dX8_command_189 (by omega) (fun h9 => ?_) (fun h9 => ?_)
    · refine n_iconst_0 (pc := 210) dX8_command_210 ?_
      exact ret 211 false z S _ dX8_command_211 (KS.rf S) hI (by rw [e0, if_neg h9])
    · refine r_aload0 (pc := 192) dX8_command_192 ?_
      refine r_aload0 (pc := 193) dX8_command_193 ?_
      refine r_getf (pc := 194) fl_X8_16 dX8_command_194 (kget0 rfl) rfl ?_
      refine r_iload3 (pc := 197) dX8_command_197 ?_
      refine r_iload4 (pc := 198) dX8_command_198 ?_
      refine r_callV3x (pc := 200) lk_X8_215 dX8_command_200 (kget0 rfl) (s8_flipped (M := M) (b := b) (S := S) hK2 hI hZ (x := gX g) (y := gY g) (by omega) (by omega))  (by decide) (Nat.le_of_ble_eq_true rfl) ⟨Nat.zero_le _, Nat.zero_le _⟩ (fun M9 h9 => ?_)
      obtain ⟨f', hI', rfl⟩ := h9
      refine b_if_eq (pc := 203) 210 (by decide) dX8_command_203 (fun h8 => ?_) (fun h8 => ?_)
      · refine n_iconst_0 (pc := 210) dX8_command_210 ?_
        exact ret 211 false _ _ _ dX8_command_211 ((KS.rf S).i2 f') hI' (by rw [e0, if_pos h9, h8])
      · refine n_iconst_1 (pc := 206) dX8_command_206 ?_
        refine r_goto (pc := 207) 211 (by decide) dX8_command_207 ?_
        exact ret 211 true _ _ _ dX8_command_211 ((KS.rf S).i2 f') hI' (by rw [e0, if_pos h9, h8])
  · have e0 : grpZ z g = if 1 ≤ g % 100000 ∧ g % 100000 ≤ 20 then (true, impZ (g % 100000) z) else (false, z) := by unfold grpZ; rw [if_neg (by omega), if_neg (by omega), if_neg (by omega), if_neg (by omega), if_pos c]
    refine r_tableIn (pc := 51) 212 (by decide) (by decide) rfl (by decide) dX8_command_51 ?_
    refine r_iload2 (pc := 212) dX8_command_212 ?_
    refine r_i2l (pc := 213) dX8_command_213 ?_
    refine r_lconst_1 (pc := 214) dX8_command_214 ?_
    refine r_ldc2 (v := (20)) (pc := 215) (tG 1365 (by decide +kernel) (by decide +kernel)) dX8_command_215 ?_
    refine r_callS3i (pc := 218) lk_X8_50 dX8_command_218 (s8_inAB (a := 1) (b := 20) (by decide) (by decide)) (by decide) (Nat.le_of_ble_eq_true rfl) ⟨Nat.zero_le _, Nat.zero_le _⟩ ?_
    have ei : inB (nI (g % 100000)) 1 20 = decide (1 ≤ g % 100000 ∧ g % 100000 ≤ 20) := by
      unfold inB
      rw [nI_toInt (by omega), decide_eq_decide]
      omega
    rw [ei]
    refine b_if_eq (pc := 221) 240 (by decide) dX8_command_221 (fun h9 => ?_) (fun h9 => ?_)
    · refine n_iconst_0 (pc := 240) dX8_command_240 ?_
      exact ret 241 false z S _ dX8_command_241 (KS.rf S) hI (by rw [e0, if_neg (of_decide_eq_false h9)])
    · have hle := imp_le (g % 100000) hZ
      have hb1 : 0 ≤ erAll z ∧ erAll z ≤ 1097712 := hZ.erAllN (zt z) (Nat.le_refl _)
      have hzi := (imp_ch (g % 100000) hZ).2.1
      have hb2 : 0 ≤ erAll (impZ (g % 100000) z) := (hzi.erAllN _ (Nat.le_refl _)).1
      refine r_aload0 (pc := 224) dX8_command_224 ?_
      refine r_aload0 (pc := 225) dX8_command_225 ?_
      refine r_getf (pc := 226) fl_X8_16 dX8_command_226 (kget0 rfl) rfl ?_
      refine r_iload2 (pc := 229) dX8_command_229 ?_
      refine r_callV2x (pc := 230) lk_X8_225 dX8_command_230 (kget0 rfl) (s8_improveOn (M := M) (b := b) (S := S) hK2 hI hZ (m := g % 100000) (by omega))  (by decide) (Nat.le_of_ble_eq_true rfl) ⟨Nat.zero_le _, Nat.zero_le _⟩ (fun M9 h9 => ?_)
      obtain ⟨v', w', f', hI', rfl⟩ := h9
      refine z_if_lt (pc := 233) 240 (by decide) dX8_command_233 (by omega) (by omega) (fun h9 => absurd h9 (by omega)) (fun _ => ?_)
      refine n_iconst_1 (pc := 236) dX8_command_236 ?_
      refine r_goto (pc := 237) 241 (by decide) dX8_command_237 ?_
      exact ret 241 true _ _ _ dX8_command_241 (KS.im v' w' _ f') hI' (by rw [e0, if_pos (of_decide_eq_true h9)])
  · have e0 : grpZ z g = (decide (gL g = 0 ∧ gK g < zt z ∧ gM g < zt z ∧ zT z (gK g) = gM g), z) := by unfold grpZ; simp only [c]; rfl
    have no : ¬ (gL g = 0 ∧ gK g < zt z ∧ gM g < zt z ∧ zT z (gK g) = gM g) → ∀ lv, G mX8_command 10 (.inl false) 0 0 (tQ (some (.int (bI (grpZ z g).1))) M b S (grpZ z g).2) none 0 0 298 lv [] (kset M b S) := by
      intro hn lv
      refine n_iconst_0 (pc := 298) dX8_command_298 ?_
      exact ret 299 false z S _ dX8_command_299 (KS.rf S) hI (by rw [e0, decide_eq_false hn])
    refine r_tableIn (pc := 51) 242 (by decide) (by decide) rfl (by decide) dX8_command_51 ?_
    refine r_iload8 (pc := 242) dX8_command_242 ?_
    refine n_if_ne (pc := 244) 298 (by decide) dX8_command_244 (by omega) (fun h1 => no (fun h => h1 h.1) _) (fun h1 => ?_)
    refine r_aload0 (pc := 247) dX8_command_247 ?_
    refine r_getf (pc := 248) fl_X8_16 dX8_command_248 (kget0 rfl) rfl ?_
    refine r_iload6 (pc := 251) dX8_command_251 ?_
    refine r_callS2i (pc := 253) lk_X8_152 dX8_command_253 (s8_isPlace hM hI hZ) (by decide) (Nat.le_of_ble_eq_true rfl) ⟨Nat.zero_le _, Nat.zero_le _⟩ ?_
    rw [inR_nI (by omega) (by omega)]
    refine b_if_eq (pc := 256) 298 (by decide) dX8_command_256 (fun h2 => no (fun h => of_decide_eq_false h2 h.2.1) _) (fun h2 => ?_)
    have h2 := of_decide_eq_true h2
    refine r_aload0 (pc := 259) dX8_command_259 ?_
    refine r_getf (pc := 260) fl_X8_16 dX8_command_260 (kget0 rfl) rfl ?_
    refine r_iload7 (pc := 263) dX8_command_263 ?_
    refine r_callS2i (pc := 265) lk_X8_152 dX8_command_265 (s8_isPlace hM hI hZ) (by decide) (Nat.le_of_ble_eq_true rfl) ⟨Nat.zero_le _, Nat.zero_le _⟩ ?_
    rw [inR_nI (by omega) (by omega)]
    refine b_if_eq (pc := 268) 298 (by decide) dX8_command_268 (fun h3 => no (fun h => of_decide_eq_false h3 h.2.2.1) _) (fun h3 => ?_)
    have h3 := of_decide_eq_true h3
    have ht := hZ.t h2
    have hqk := hZ.fq h2
    refine r_aload0 (pc := 271) dX8_command_271 ?_
    refine r_getf (pc := 272) fl_X8_16 dX8_command_272 (kget0 rfl) rfl ?_
    refine n_sipush (pc := 275) 227 (by decide) dX8_command_275 ?_
    refine r_aload0 (pc := 278) dX8_command_278 ?_
    refine r_getf (pc := 279) fl_X8_16 dX8_command_279 (kget0 rfl) rfl ?_
    refine r_iload6 (pc := 282) dX8_command_282 ?_
    refine r_callS2i (pc := 284) lk_X8_123 dX8_command_284 (s8_firstOf hM hI hZ h2) (by decide) (Nat.le_of_ble_eq_true rfl) ⟨Nat.zero_le _, Nat.zero_le _⟩ ?_
    first | refine n_iadd (pc := 287) dX8_command_287 ?_ | refine z_iadd (pc := 287) dX8_command_287 ?_ | refine r_iadd (pc := 287) dX8_command_287 ?_
    refine n_iald (pc := 288) dX8_command_288 hM (by omega) (by decide) (hI.T h2) ?_
    refine r_iload7 (pc := 289) dX8_command_289 ?_
    refine n_icmp_ne (pc := 291) 298 (by decide) dX8_command_291 (by omega) (by omega) (fun h4 => no (fun h => h4 h.2.2.2) _) (fun h4 => ?_)
    refine n_iconst_1 (pc := 294) dX8_command_294 ?_
    refine r_goto (pc := 295) 299 (by decide) dX8_command_295 ?_
    exact ret 299 true z S _ dX8_command_299 (KS.rf S) hI (by rw [e0, decide_eq_true ⟨h1, h2, h3, h4⟩])
  · have e0 : grpZ z g = (decide (gM g = 0 ∧ gK g < zt z ∧ zU z (gK g) = gL g), z) := by unfold grpZ; simp only [c]; rfl
    have no : ¬ (gM g = 0 ∧ gK g < zt z ∧ zU z (gK g) = gL g) → ∀ lv, G mX8_command 10 (.inl false) 0 0 (tQ (some (.int (bI (grpZ z g).1))) M b S (grpZ z g).2) none 0 0 350 lv [] (kset M b S) := by
      intro hn lv
      refine n_iconst_0 (pc := 350) dX8_command_350 ?_
      exact ret 351 false z S _ dX8_command_351 (KS.rf S) hI (by rw [e0, decide_eq_false hn])
    refine r_tableIn (pc := 51) 300 (by decide) (by decide) rfl (by decide) dX8_command_51 ?_
    refine r_iload7 (pc := 300) dX8_command_300 ?_
    refine n_if_ne (pc := 302) 350 (by decide) dX8_command_302 (by omega) (fun h1 => no (fun h => h1 h.1) _) (fun h1 => ?_)
    refine r_iload8 (pc := 305) dX8_command_305 ?_
    refine n_iconst_2 (pc := 307) dX8_command_307 ?_
    refine n_icmp_ge (pc := 308) 350 (by decide) dX8_command_308 (by omega) (by omega) (fun h8 => no (fun h => by have := hZ.u h.2.1; omega) _) (fun h8 => ?_)
    refine r_aload0 (pc := 311) dX8_command_311 ?_
    refine r_getf (pc := 312) fl_X8_16 dX8_command_312 (kget0 rfl) rfl ?_
    refine r_iload6 (pc := 315) dX8_command_315 ?_
    refine r_callS2i (pc := 317) lk_X8_152 dX8_command_317 (s8_isPlace hM hI hZ) (by decide) (Nat.le_of_ble_eq_true rfl) ⟨Nat.zero_le _, Nat.zero_le _⟩ ?_
    rw [inR_nI (by omega) (by omega)]
    refine b_if_eq (pc := 320) 350 (by decide) dX8_command_320 (fun h2 => no (fun h => of_decide_eq_false h2 h.2.1) _) (fun h2 => ?_)
    have h2 := of_decide_eq_true h2
    have hu := hZ.u h2
    have hqk := hZ.fq h2
    refine r_aload0 (pc := 323) dX8_command_323 ?_
    refine r_getf (pc := 324) fl_X8_16 dX8_command_324 (kget0 rfl) rfl ?_
    refine n_sipush (pc := 327) 339 (by decide) dX8_command_327 ?_
    refine r_aload0 (pc := 330) dX8_command_330 ?_
    refine r_getf (pc := 331) fl_X8_16 dX8_command_331 (kget0 rfl) rfl ?_
    refine r_iload6 (pc := 334) dX8_command_334 ?_
    refine r_callS2i (pc := 336) lk_X8_123 dX8_command_336 (s8_firstOf hM hI hZ h2) (by decide) (Nat.le_of_ble_eq_true rfl) ⟨Nat.zero_le _, Nat.zero_le _⟩ ?_
    first | refine n_iadd (pc := 339) dX8_command_339 ?_ | refine z_iadd (pc := 339) dX8_command_339 ?_ | refine r_iadd (pc := 339) dX8_command_339 ?_
    refine n_iald (pc := 340) dX8_command_340 hM (by omega) (by decide) (hI.U h2) ?_
    refine r_iload8 (pc := 341) dX8_command_341 ?_
    refine n_icmp_ne (pc := 343) 350 (by decide) dX8_command_343 (by omega) (by omega) (fun h4 => no (fun h => h4 h.2.2) _) (fun h4 => ?_)
    refine n_iconst_1 (pc := 346) dX8_command_346 ?_
    refine r_goto (pc := 347) 351 (by decide) dX8_command_347 ?_
    exact ret 351 true z S _ dX8_command_351 (KS.rf S) hI (by rw [e0, decide_eq_true ⟨h1, h2, h4⟩])
  · have e0 : grpZ z g = (decide (gL g = 0 ∧ gX g < zc z ∧ gY g < zr z ∧ pipZ z (gY g * zc z + gX g) = gM g % 10), z) := by unfold grpZ; simp only [c]; rfl
    have no : ¬ (gL g = 0 ∧ gX g < zc z ∧ gY g < zr z ∧ pipZ z (gY g * zc z + gX g) = gM g % 10) → ∀ lv, G mX8_command 10 (.inl false) 0 0 (tQ (some (.int (bI (grpZ z g).1))) M b S (grpZ z g).2) none 0 0 398 lv [] (kset M b S) := by
      intro hn lv
      refine n_iconst_0 (pc := 398) dX8_command_398 ?_
      exact ret 399 false z S _ dX8_command_399 (KS.rf S) hI (by rw [e0, decide_eq_false hn])
    refine r_tableIn (pc := 51) 352 (by decide) (by decide) rfl (by decide) dX8_command_51 ?_
    refine r_iload8 (pc := 352) dX8_command_352 ?_
    refine n_if_ne (pc := 354) 398 (by decide) dX8_command_354 (by omega) (fun h1 => no (fun h => h1 h.1) _) (fun h1 => ?_)
    refine r_aload0 (pc := 357) dX8_command_357 ?_
    refine r_getf (pc := 358) fl_X8_16 dX8_command_358 (kget0 rfl) rfl ?_
    refine r_iload3 (pc := 361) dX8_command_361 ?_
    refine r_iload4 (pc := 362) dX8_command_362 ?_
    refine r_callS3i (pc := 364) lk_X8_158 dX8_command_364 (s8_isSquare hM hI hZ) (by decide) (Nat.le_of_ble_eq_true rfl) ⟨Nat.zero_le _, Nat.zero_le _⟩ ?_
    rw [inR_nI (by omega) (by omega), inR_nI (by omega) (by omega)]
    refine b_if_eq (pc := 367) 398 (by decide) dX8_command_367 (fun h2 => no (fun h => by simp [h.2.1, h.2.2.1] at h2) _) (fun h2 => ?_)
    have h3 : gX g < zc z ∧ gY g < zr z := by simpa using h2
    have hq := sq_in h3.1 h3.2
    have em : gY g * zc z + gX g = zc z * gY g + gX g := by rw [Nat.mul_comm]
    have ep : g % 100000 % 100 / 10 = gM g % 10 := by unfold gM; omega
    have hpz := pipZ_le hZ hq
    refine r_aload0 (pc := 370) dX8_command_370 ?_
    refine r_getf (pc := 371) fl_X8_16 dX8_command_371 (kget0 rfl) rfl ?_
    refine r_aload0 (pc := 374) dX8_command_374 ?_
    refine r_getf (pc := 375) fl_X8_16 dX8_command_375 (kget0 rfl) rfl ?_
    refine r_callS1i (pc := 378) lk_X8_40 dX8_command_378 (s8_wide hM hI) (by decide) (Nat.le_of_ble_eq_true rfl) ⟨Nat.zero_le _, Nat.zero_le _⟩ ?_
    refine r_iload4 (pc := 381) dX8_command_381 ?_
    first | refine n_imul (pc := 383) dX8_command_383 ?_ | refine z_imul (pc := 383) dX8_command_383 ?_ | refine r_imul (pc := 383) dX8_command_383 ?_
    refine r_iload3 (pc := 384) dX8_command_384 ?_
    first | refine n_iadd (pc := 385) dX8_command_385 ?_ | refine z_iadd (pc := 385) dX8_command_385 ?_ | refine r_iadd (pc := 385) dX8_command_385 ?_
    refine r_callS2i (pc := 386) lk_X8_245 dX8_command_386 (s8_pipsOn hM hI hZ hq) (by decide) (Nat.le_of_ble_eq_true rfl) ⟨Nat.zero_le _, Nat.zero_le _⟩ ?_
    refine r_iload9 (pc := 389) dX8_command_389 ?_
    rw [ep]
    refine n_icmp_ne (pc := 391) 398 (by decide) dX8_command_391 (by omega) (by omega) (fun h4 => no (fun h => h4 (by rw [← em]; exact h.2.2.2)) _) (fun h4 => ?_)
    refine n_iconst_1 (pc := 394) dX8_command_394 ?_
    refine r_goto (pc := 395) 399 (by decide) dX8_command_395 ?_
    exact ret 399 true z S _ dX8_command_399 (KS.rf S) hI (by rw [e0, decide_eq_true ⟨h1, h3.1, h3.2, by rw [em]; exact h4⟩])
  · have e0 : grpZ z g = (decide (erAll z ≤ (g % 100000 : Nat)), z) := by unfold grpZ; simp only [c]; rfl
    have hb8 : 0 ≤ erAll z ∧ erAll z ≤ 1097712 := hZ.erAllN (zt z) (Nat.le_refl _)
    refine r_tableIn (pc := 51) 400 (by decide) (by decide) rfl (by decide) dX8_command_51 ?_
    refine r_aload0 (pc := 400) dX8_command_400 ?_
    refine r_getf (pc := 401) fl_X8_16 dX8_command_401 (kget0 rfl) rfl ?_
    refine r_callS1i (pc := 404) lk_X8_146 dX8_command_404 (s8_wholeError hM hI hZ) (by decide) (Nat.le_of_ble_eq_true rfl) ⟨Nat.zero_le _, Nat.zero_le _⟩ ?_
    refine r_iload2 (pc := 407) dX8_command_407 ?_
    rw [iI_nat (g % 100000)]
    refine z_icmp_gt (a := erAll z) (b := ((g % 100000 : Nat) : Int)) (pc := 408) 415 (by decide) dX8_command_408 (by omega) (by omega) (by omega) (by omega) (fun h4 => ?_) (fun h4 => ?_)
    · refine n_iconst_0 (pc := 415) dX8_command_415 ?_
      exact ret 416 false z S _ dX8_command_416 (KS.rf S) hI (by rw [e0, decide_eq_false (by omega)])
    · refine n_iconst_1 (pc := 411) dX8_command_411 ?_
      refine r_goto (pc := 412) 416 (by decide) dX8_command_412 ?_
      exact ret 416 true z S _ dX8_command_416 (KS.rf S) hI (by rw [e0, decide_eq_true (by omega)])
set_option maxRecDepth 20000 in
theorem s8_turnBy (hI : InvR (S.2 2) z) (hZ : ZOK z) (hT : TOK z) {r : Nat} (hr : r < 2147483648) : SpecP mX8_turnBy 10 0 0 [.ref b, .int (nI r)] (kset M b S) (tQ none M b S (simZ z r)) := by
  have hd := hZ.dims
  have hM : kset M b S (b + 3) = some (cI 563 (S.2 2)) := kget rfl
  refine Spec_of [some (.ref b), some (.int (nI r)), none] (by decide) (Nat.le_of_ble_eq_true rfl) rfl ?_
  have fin : ∀ (y : ZS) (S1 : BS), KS S S1 → InvR (S1.2 2) y → simZ z r = y →
    G mX8_turnBy 10 (.inl false) 0 0 (tQ none M b S (simZ z r)) none 0 0 219 [some (.ref b), some (.int (nI r)), some (.int (nI (r / 8)))] [] (kset M b S1)
    := by
    intro y S1 k1 k2 e
    exact p_return (pc := 219) false rfl rfl dX8_turnBy_219 (Nat.zero_le _) (Nat.zero_le _) (Or.inl rfl) ⟨rfl, S1, k1, by rw [e]; exact k2, rfl⟩
  have grey : simZ z r = aG z (r / 8 % 8) (r / 8 / 8 % 14) (r / 8 / 128 % 100) →
    G mX8_turnBy 10 (.inl false) 0 0 (tQ none M b S (simZ z r)) none 0 0 52 [some (.ref b), some (.int (nI r)), some (.int (nI (r / 8)))] [] (kset M b S)
    := by
    intro e
    refine r_aload0 (pc := 52) dX8_turnBy_52 ?_
    refine r_getf (pc := 53) fl_X8_16 dX8_turnBy_53 (kget0 rfl) rfl ?_
    refine r_iload2 (pc := 56) dX8_turnBy_56 ?_
    refine n_bipush (pc := 57) 8 (by decide) dX8_turnBy_57 ?_
    refine n_irem (pc := 59) dX8_turnBy_59 (by omega) (by omega) (by omega) ?_
    refine r_iload2 (pc := 60) dX8_turnBy_60 ?_
    refine n_bipush (pc := 61) 8 (by decide) dX8_turnBy_61 ?_
    refine n_idiv (pc := 63) dX8_turnBy_63 (by omega) (by omega) (by omega) ?_
    refine n_bipush (pc := 64) 14 (by decide) dX8_turnBy_64 ?_
    refine n_irem (pc := 66) dX8_turnBy_66 (by omega) (by omega) (by omega) ?_
    refine r_callS3i (pc := 67) lk_X8_158 dX8_turnBy_67 (s8_isSquare hM hI hZ) (by decide) (Nat.le_of_ble_eq_true rfl) ⟨Nat.zero_le _, Nat.zero_le _⟩ ?_
    rw [inR_nI (by omega) (by omega), inR_nI (by omega) (by omega)]
    refine b_if_eq (pc := 70) 219 (by decide) dX8_turnBy_70 (fun h1 => ?_) (fun h1 => ?_)
    · have ec : canG z (r / 8 % 8) (r / 8 / 8 % 14) (r / 8 / 128 % 100) = false := by unfold canG; rw [h1]; rfl
      exact fin z S (KS.rf S) hI (by rw [e]; unfold aG; rw [ec]; rfl)
    · have h3 : r / 8 % 8 < zc z ∧ r / 8 / 8 % 14 < zr z := by simpa using h1
      have ec : canG z (r / 8 % 8) (r / 8 / 8 % 14) (r / 8 / 128 % 100) = true := by
        unfold canG; rw [h1]; simpa using (show r / 8 / 128 % 100 < 100 by omega)
      refine r_aload0 (pc := 73) dX8_turnBy_73 ?_
      refine r_getf (pc := 74) fl_X8_16 dX8_turnBy_74 (kget0 rfl) rfl ?_
      refine r_iload2 (pc := 77) dX8_turnBy_77 ?_
      refine n_bipush (pc := 78) 8 (by decide) dX8_turnBy_78 ?_
      refine n_irem (pc := 80) dX8_turnBy_80 (by omega) (by omega) (by omega) ?_
      refine r_iload2 (pc := 81) dX8_turnBy_81 ?_
      refine n_bipush (pc := 82) 8 (by decide) dX8_turnBy_82 ?_
      refine n_idiv (pc := 84) dX8_turnBy_84 (by omega) (by omega) (by omega) ?_
      refine n_bipush (pc := 85) 14 (by decide) dX8_turnBy_85 ?_
      refine n_irem (pc := 87) dX8_turnBy_87 (by omega) (by omega) (by omega) ?_
      refine r_iload2 (pc := 88) dX8_turnBy_88 ?_
      refine n_sipush (pc := 89) 128 (by decide) dX8_turnBy_89 ?_
      refine n_idiv (pc := 92) dX8_turnBy_92 (by omega) (by omega) (by omega) ?_
      refine n_bipush (pc := 93) 100 (by decide) dX8_turnBy_93 ?_
      refine n_irem (pc := 95) dX8_turnBy_95 (by omega) (by omega) (by omega) ?_
      refine r_callS4x (pc := 96) lk_X8_195 dX8_turnBy_96 (hK2.to (M := M) (b := b) (S := S) (s8_greyOn (g := r / 8 / 128 % 100) hI hZ h3.1 h3.2))  (by decide) (Nat.le_of_ble_eq_true rfl) ⟨Nat.zero_le _, Nat.zero_le _⟩ (fun M9 h9 => ?_)
      obtain ⟨f', hI', rfl⟩ := h9
      refine r_pop (pc := 99) dX8_turnBy_99 rfl ?_
      refine r_goto (pc := 100) 219 (by decide) dX8_turnBy_100 ?_
      exact fin _ _ ((KS.rf S).i2 f') hI' (by rw [e]; unfold aG; rw [ec]; rfl)
  refine r_iload1 (pc := 0) dX8_turnBy_0 ?_
  refine n_bipush (pc := 1) 8 (by decide) dX8_turnBy_1 ?_
  refine n_idiv (pc := 3) dX8_turnBy_3 (by omega) (by omega) (by omega) ?_
  refine r_istore2 (pc := 4) dX8_turnBy_4 rfl ?_
  refine r_iload1 (pc := 5) dX8_turnBy_5 ?_
  refine n_bipush (pc := 6) 8 (by decide) dX8_turnBy_6 ?_
  refine n_irem (pc := 8) dX8_turnBy_8 (by omega) (by omega) (by omega) ?_
  have c : r % 8 = 0 ∨ r % 8 = 1 ∨ r % 8 = 2 ∨ r % 8 = 3 ∨ r % 8 = 4 ∨ r % 8 = 5 ∨ r % 8 = 6 ∨ r % 8 = 7 := by omega
  rcases c with c | c | c | c | c | c | c | c
  · rw [c]
    refine r_tableIn (pc := 9) 52 (by decide) (by decide) rfl (by decide) dX8_turnBy_9 ?_
    exact grey (by unfold simZ; rw [if_pos (by omega)])
  · rw [c]
    refine r_tableIn (pc := 9) 52 (by decide) (by decide) rfl (by decide) dX8_turnBy_9 ?_
    exact grey (by unfold simZ; rw [if_pos (by omega)])
  · rw [c]
    refine r_tableIn (pc := 9) 103 (by decide) (by decide) rfl (by decide) dX8_turnBy_9 ?_
    refine r_aload0 (pc := 103) dX8_turnBy_103 ?_
    refine r_aload0 (pc := 104) dX8_turnBy_104 ?_
    refine r_getf (pc := 105) fl_X8_16 dX8_turnBy_105 (kget0 rfl) rfl ?_
    refine r_iload2 (pc := 108) dX8_turnBy_108 ?_
    refine n_bipush (pc := 109) 56 (by decide) dX8_turnBy_109 ?_
    refine n_irem (pc := 111) dX8_turnBy_111 (by omega) (by omega) (by omega) ?_
    refine r_callV2x (pc := 112) lk_X8_209 dX8_turnBy_112 (kget0 rfl) (s8_turnedOne (M := M) (b := b) (S := S) hK2 hI hZ (k := r / 8 % 56) (by omega))  (by decide) (Nat.le_of_ble_eq_true rfl) ⟨Nat.zero_le _, Nat.zero_le _⟩ (fun M9 h9 => ?_)
    obtain ⟨f', hI', rfl⟩ := h9
    refine r_pop (pc := 115) dX8_turnBy_115 rfl ?_
    refine r_goto (pc := 116) 219 (by decide) dX8_turnBy_116 ?_
    exact fin _ _ ((KS.rf S).i2 f') hI' (by unfold simZ; rw [if_neg (by omega), if_pos (by omega)])
  · rw [c]
    refine r_tableIn (pc := 9) 119 (by decide) (by decide) rfl (by decide) dX8_turnBy_9 ?_
    refine r_aload0 (pc := 119) dX8_turnBy_119 ?_
    refine r_aload0 (pc := 120) dX8_turnBy_120 ?_
    refine r_getf (pc := 121) fl_X8_16 dX8_turnBy_121 (kget0 rfl) rfl ?_
    refine r_iload2 (pc := 124) dX8_turnBy_124 ?_
    refine n_bipush (pc := 125) 56 (by decide) dX8_turnBy_125 ?_
    refine n_irem (pc := 127) dX8_turnBy_127 (by omega) (by omega) (by omega) ?_
    refine r_iload2 (pc := 128) dX8_turnBy_128 ?_
    refine n_bipush (pc := 129) 64 (by decide) dX8_turnBy_129 ?_
    refine n_idiv (pc := 131) dX8_turnBy_131 (by omega) (by omega) (by omega) ?_
    refine n_bipush (pc := 132) 56 (by decide) dX8_turnBy_132 ?_
    refine n_irem (pc := 134) dX8_turnBy_134 (by omega) (by omega) (by omega) ?_
    refine r_callV3x (pc := 135) lk_X8_212 dX8_turnBy_135 (kget0 rfl) (s8_swapped (M := M) (b := b) (S := S) hK2 hI hZ (j := r / 8 % 56) (k := r / 8 / 64 % 56) (by omega) (by omega))  (by decide) (Nat.le_of_ble_eq_true rfl) ⟨Nat.zero_le _, Nat.zero_le _⟩ (fun M9 h9 => ?_)
    obtain ⟨f', hI', rfl⟩ := h9
    refine r_pop (pc := 138) dX8_turnBy_138 rfl ?_
    refine r_goto (pc := 139) 219 (by decide) dX8_turnBy_139 ?_
    exact fin _ _ ((KS.rf S).i2 f') hI' (by unfold simZ; rw [if_neg (by omega), if_neg (by omega), if_pos (by omega)])
  · rw [c]
    refine r_tableIn (pc := 9) 119 (by decide) (by decide) rfl (by decide) dX8_turnBy_9 ?_
    refine r_aload0 (pc := 119) dX8_turnBy_119 ?_
    refine r_aload0 (pc := 120) dX8_turnBy_120 ?_
    refine r_getf (pc := 121) fl_X8_16 dX8_turnBy_121 (kget0 rfl) rfl ?_
    refine r_iload2 (pc := 124) dX8_turnBy_124 ?_
    refine n_bipush (pc := 125) 56 (by decide) dX8_turnBy_125 ?_
    refine n_irem (pc := 127) dX8_turnBy_127 (by omega) (by omega) (by omega) ?_
    refine r_iload2 (pc := 128) dX8_turnBy_128 ?_
    refine n_bipush (pc := 129) 64 (by decide) dX8_turnBy_129 ?_
    refine n_idiv (pc := 131) dX8_turnBy_131 (by omega) (by omega) (by omega) ?_
    refine n_bipush (pc := 132) 56 (by decide) dX8_turnBy_132 ?_
    refine n_irem (pc := 134) dX8_turnBy_134 (by omega) (by omega) (by omega) ?_
    refine r_callV3x (pc := 135) lk_X8_212 dX8_turnBy_135 (kget0 rfl) (s8_swapped (M := M) (b := b) (S := S) hK2 hI hZ (j := r / 8 % 56) (k := r / 8 / 64 % 56) (by omega) (by omega))  (by decide) (Nat.le_of_ble_eq_true rfl) ⟨Nat.zero_le _, Nat.zero_le _⟩ (fun M9 h9 => ?_)
    obtain ⟨f', hI', rfl⟩ := h9
    refine r_pop (pc := 138) dX8_turnBy_138 rfl ?_
    refine r_goto (pc := 139) 219 (by decide) dX8_turnBy_139 ?_
    exact fin _ _ ((KS.rf S).i2 f') hI' (by unfold simZ; rw [if_neg (by omega), if_neg (by omega), if_pos (by omega)])
  · rw [c]
    refine r_tableIn (pc := 9) 142 (by decide) (by decide) rfl (by decide) dX8_turnBy_9 ?_
    refine r_aload0 (pc := 142) dX8_turnBy_142 ?_
    refine r_aload0 (pc := 143) dX8_turnBy_143 ?_
    refine r_getf (pc := 144) fl_X8_16 dX8_turnBy_144 (kget0 rfl) rfl ?_
    refine r_iload2 (pc := 147) dX8_turnBy_147 ?_
    refine n_bipush (pc := 148) 8 (by decide) dX8_turnBy_148 ?_
    refine n_irem (pc := 150) dX8_turnBy_150 (by omega) (by omega) (by omega) ?_
    refine r_iload2 (pc := 151) dX8_turnBy_151 ?_
    refine n_bipush (pc := 152) 8 (by decide) dX8_turnBy_152 ?_
    refine n_idiv (pc := 154) dX8_turnBy_154 (by omega) (by omega) (by omega) ?_
    refine n_bipush (pc := 155) 14 (by decide) dX8_turnBy_155 ?_
    refine n_irem (pc := 157) dX8_turnBy_157 (by omega) (by omega) (by omega) ?_
    refine r_callV3x (pc := 158) lk_X8_215 dX8_turnBy_158 (kget0 rfl) (s8_flipped (M := M) (b := b) (S := S) hK2 hI hZ (x := r / 8 % 8) (y := r / 8 / 8 % 14) (by omega) (by omega))  (by decide) (Nat.le_of_ble_eq_true rfl) ⟨Nat.zero_le _, Nat.zero_le _⟩ (fun M9 h9 => ?_)
    obtain ⟨f', hI', rfl⟩ := h9
    refine r_pop (pc := 161) dX8_turnBy_161 rfl ?_
    refine r_goto (pc := 162) 219 (by decide) dX8_turnBy_162 ?_
    exact fin _ _ ((KS.rf S).i2 f') hI' (by unfold simZ; rw [if_neg (by omega), if_neg (by omega), if_neg (by omega), if_pos (by omega)])
  · rw [c]
    refine r_tableIn (pc := 9) 165 (by decide) (by decide) rfl (by decide) dX8_turnBy_9 ?_
    refine r_iload2 (pc := 165) dX8_turnBy_165 ?_
    refine n_iconst_4 (pc := 166) dX8_turnBy_166 ?_
    refine n_irem (pc := 167) dX8_turnBy_167 (by omega) (by omega) (by omega) ?_
    refine n_if_ne (pc := 168) 193 (by decide) dX8_turnBy_168 (by omega) (fun h9 => ?_) (fun h9 => ?_)
    · refine r_aload0 (pc := 193) dX8_turnBy_193 ?_
      refine r_aload0 (pc := 194) dX8_turnBy_194 ?_
      refine r_getf (pc := 195) fl_X8_16 dX8_turnBy_195 (kget0 rfl) rfl ?_
      refine r_callV1x (pc := 198) lk_X8_188 dX8_turnBy_198 (kget0 rfl) (s8_layAll (M := M) (b := b) (S := S) hK2 hI hZ hT)  (by decide) (Nat.le_of_ble_eq_true rfl) ⟨Nat.zero_le _, Nat.zero_le _⟩ (fun M9 h9 => ?_)
      obtain ⟨L, f', hI', rfl⟩ := h9
      refine r_pop (pc := 201) dX8_turnBy_201 rfl ?_
      refine r_goto (pc := 202) 219 (by decide) dX8_turnBy_202 ?_
      exact fin _ (ia (ia S 6 L) 2 f') (KS.la L f') hI' (by unfold simZ; rw [if_neg (by omega), if_neg (by omega), if_neg (by omega), if_neg (by omega), if_pos (by omega), if_neg h9])
    · refine r_aload0 (pc := 171) dX8_turnBy_171 ?_
      refine r_getf (pc := 172) fl_X8_16 dX8_turnBy_172 (kget0 rfl) rfl ?_
      refine r_iload2 (pc := 175) dX8_turnBy_175 ?_
      refine n_bipush (pc := 176) 100 (by decide) dX8_turnBy_176 ?_
      refine n_irem (pc := 178) dX8_turnBy_178 (by omega) (by omega) (by omega) ?_
      refine r_iload2 (pc := 179) dX8_turnBy_179 ?_
      refine n_sipush (pc := 180) 128 (by decide) dX8_turnBy_180 ?_
      refine n_idiv (pc := 183) dX8_turnBy_183 (by omega) (by omega) (by omega) ?_
      refine n_bipush (pc := 184) 100 (by decide) dX8_turnBy_184 ?_
      refine n_irem (pc := 186) dX8_turnBy_186 (by omega) (by omega) (by omega) ?_
      refine r_callS3w (pc := 187) lk_X8_179 dX8_turnBy_187 (hK2.to (M := M) (b := b) (S := S) (s8_fadeOn hI hZ (p := r / 8 % 100) (c := r / 8 / 128 % 100) (by omega) (by omega)))  (by decide) (Nat.le_of_ble_eq_true rfl) ⟨Nat.zero_le _, Nat.zero_le _⟩ (fun M9 h9 => ?_)
      obtain ⟨f', hI', rfl⟩ := h9
      refine r_goto (pc := 190) 219 (by decide) dX8_turnBy_190 ?_
      exact fin _ _ ((KS.rf S).i2 f') hI' (by unfold simZ; rw [if_neg (by omega), if_neg (by omega), if_neg (by omega), if_neg (by omega), if_pos (by omega), if_pos h9])
  · rw [c]
    refine r_tableOut (pc := 9) 205 (Or.inr (by decide)) (by decide) dX8_turnBy_9 ?_
    refine r_aload0 (pc := 205) dX8_turnBy_205 ?_
    refine r_aload0 (pc := 206) dX8_turnBy_206 ?_
    refine r_getf (pc := 207) fl_X8_16 dX8_turnBy_207 (kget0 rfl) rfl ?_
    refine n_iconst_1 (pc := 210) dX8_turnBy_210 ?_
    refine r_iload2 (pc := 211) dX8_turnBy_211 ?_
    refine n_iconst_4 (pc := 212) dX8_turnBy_212 ?_
    refine n_irem (pc := 213) dX8_turnBy_213 (by omega) (by omega) (by omega) ?_
    first | refine n_iadd (pc := 214) dX8_turnBy_214 ?_ | refine z_iadd (pc := 214) dX8_turnBy_214 ?_ | refine r_iadd (pc := 214) dX8_turnBy_214 ?_
    refine r_callV2x (pc := 215) lk_X8_225 dX8_turnBy_215 (kget0 rfl) (s8_improveOn (M := M) (b := b) (S := S) hK2 hI hZ (m := 1 + r / 8 % 4) (by omega))  (by decide) (Nat.le_of_ble_eq_true rfl) ⟨Nat.zero_le _, Nat.zero_le _⟩ (fun M9 h9 => ?_)
    obtain ⟨v', w', f', hI', rfl⟩ := h9
    refine r_pop (pc := 218) dX8_turnBy_218 rfl ?_
    exact fin _ _ (KS.im v' w' _ f') hI' (by unfold simZ; rw [if_neg (by omega), if_neg (by omega), if_neg (by omega), if_neg (by omega), if_neg (by omega)])
set_option maxRecDepth 20000 in
theorem s8_simulate (h : MODEL S w) (hW : WOK w) {s : Int64} {x : Int32} : SpecP mX8_simulate 12 0 0 [.ref b, .long s, .int x] (kset M b S) (tMo M b (A_simulate s x w)) := by
  have hZ := hW.z
  have hd := hZ.dims
  have hI := h.r
  have hk14 := hW.2.1.1
  have hn120 := hW.2.2.2.1
  have ha := h.a
  have hn := h.n
  have hM : kset M b S (b + 2) = some (cI 563 (S.2 1)) := kget rfl
  refine Spec_of [some (.ref b), some (.long s), none, some (.int x), none, none, none] (by decide) (Nat.le_of_ble_eq_true rfl) rfl ?_
  have no : ∀ k, 0 < k → k < 10 → A_simulate s x w = rN k w →
    G mX8_simulate 12 (.inl false) 0 0 (tMo M b (A_simulate s x w)) none 0 0 18 [some (.ref b), some (.long s), none, some (.int x), none, none, none] [.int (nI k), .ref b] (kset M b S)
    := by
    intro k h1 h2 e
    refine r_callV1i (pc := 18) lk_X8_167 dX8_simulate_18 (kget0 rfl) (s8_refused h2) (by decide) (Nat.le_of_ble_eq_true rfl) ⟨Nat.zero_le _, Nat.zero_le _⟩ ?_
    rw [decide_eq_true h1]
    refine b_if_eq (b := true) (pc := 21) 26 (by decide) dX8_simulate_21 (fun h9 => by cases h9) (fun _ => ?_)
    refine n_iconst_0 (pc := 24) dX8_simulate_24 ?_
    refine p_ireturn (pc := 25) false rfl rfl rfl dX8_simulate_25 (Nat.zero_le _) (Nat.zero_le _) (Or.inl rfl) ?_
    rw [e]
    exact ⟨rfl, _, h.ii0 _, rfl, rfl⟩
  have ok :
    G mX8_simulate 12 (.inl false) 0 0 (tMo M b (A_simulate s x w)) none 0 0 26 [some (.ref b), some (.long s), none, some (.int x), none, none, none] [] (kset M b (ii S 0 (nI 0)))
    →
    G mX8_simulate 12 (.inl false) 0 0 (tMo M b (A_simulate s x w)) none 0 0 18 [some (.ref b), some (.long s), none, some (.int x), none, none, none] [.int (nI 0), .ref b] (kset M b S)
    := by
    intro hb9
    refine r_callV1i (pc := 18) lk_X8_167 dX8_simulate_18 (kget0 rfl) (s8_refused (by decide)) (by decide) (Nat.le_of_ble_eq_true rfl) ⟨Nat.zero_le _, Nat.zero_le _⟩ ?_
    refine b_if_eq (b := false) (pc := 21) 26 (by decide) dX8_simulate_21 (fun _ => hb9) (fun h9 => by cases h9)
  have ea : A_simulate s x w = if inB x 1 30 then rO (iI (erAll (simL (nm x) s (wz w)))) w else rN 1 w := rfl
  refine r_aload0 (pc := 0) dX8_simulate_0 ?_
  refine r_iload3 (pc := 1) dX8_simulate_1 ?_
  refine r_i2l (pc := 2) dX8_simulate_2 ?_
  refine r_lconst_1 (pc := 3) dX8_simulate_3 ?_
  refine r_ldc2 (v := (30)) (pc := 4) (tG 1413 (by decide +kernel) (by decide +kernel)) dX8_simulate_4 ?_
  refine r_callS3i (pc := 7) lk_X8_50 dX8_simulate_7 (s8_inAB (a := 1) (b := 30) (by decide) (by decide)) (by decide) (Nat.le_of_ble_eq_true rfl) ⟨Nat.zero_le _, Nat.zero_le _⟩ ?_
  refine b_if_eq (pc := 10) 17 (by decide) dX8_simulate_10 (fun h1 => ?_) (fun h1 => ?_)
  · refine n_iconst_1 (pc := 17) dX8_simulate_17 ?_
    exact no 1 (by omega) (by omega) (by rw [ea, h1]; rfl)
  · rw [h1] at ea
    have ea : A_simulate s x w = rO (iI (erAll (simL (nm x) s (wz w)))) w := ea
    obtain ⟨c1, c2, c3⟩ := inB_ex h1 (by omega)
    generalize nm x = n at *
    subst c3
    refine n_iconst_0 (pc := 13) dX8_simulate_13 ?_
    refine r_goto (pc := 14) 18 (by decide) dX8_simulate_14 ?_
    refine ok ?_
    refine r_aload0 (pc := 26) dX8_simulate_26 ?_
    refine r_getf (pc := 27) fl_X8_13 dX8_simulate_27 (kget0 rfl) rfl ?_
    refine n_iconst_0 (pc := 30) dX8_simulate_30 ?_
    refine r_aload0 (pc := 31) dX8_simulate_31 ?_
    refine r_getf (pc := 32) fl_X8_16 dX8_simulate_32 (kget0 rfl) rfl ?_
    refine n_iconst_0 (pc := 35) dX8_simulate_35 ?_
    refine r_callS4v (pc := 36) lk_X8_234 dX8_simulate_36 cp_12 (by decide) (Nat.le_of_ble_eq_true rfl) ⟨Nat.zero_le _, Nat.zero_le _⟩ ?_
    have hI2 : InvR ((ia (ii S 0 (nI 0)) 2 (cpR (S.2 1) (S.2 2) 0 0 563)).2 2) (wz w) := InvR.cg hI hZ (fun j hj => by
      have e := cpR_in (f := S.2 1) (g := S.2 2) (i0 := 0) (i1 := 0) (n := 563) hj
      rw [Nat.zero_add] at e
      exact e)
    refine r_lload1 (pc := 39) dX8_simulate_39 ?_
    refine r_lstore4 (pc := 40) dX8_simulate_40 rfl ?_
    refine n_iconst_0 (pc := 42) dX8_simulate_42 ?_
    refine r_istore6 (pc := 43) dX8_simulate_43 rfl ?_
    have lp : ∀ (m i : Nat) (s9 : Int64) (y : ZS) (S1 : BS), i + m = n → KS (ii S 0 (nI 0)) S1 → InvR (S1.2 2) y → zOT y → simL m s9 y = simL n s (wz w) →
      G mX8_simulate 12 (.inl false) 0 0 (tMo M b (A_simulate s (nI n) w)) none 0 0 45 [some (.ref b), some (.long s), none, some (.int (nI n)), some (.long s9), none, some (.int (nI i))] [] (kset M b S1)
      := by
      intro m
      induction m with
      | zero =>
        intro i s9 y S1 k1 k2 k3 k4 k5
        rw [simL_0] at k5
        refine r_iload6 (pc := 45) dX8_simulate_45 ?_
        refine r_iload3 (pc := 47) dX8_simulate_47 ?_
        refine n_icmp_ge (pc := 48) 79 (by decide) dX8_simulate_48 (by omega) (by omega) (fun hc48 => ?_) (fun hc48 => absurd hc48 (by omega))
        refine r_aload0 (pc := 79) dX8_simulate_79 ?_
        refine r_getf (pc := 80) fl_X8_16 dX8_simulate_80 (kget0 rfl) rfl ?_
        refine r_callS1i (pc := 83) lk_X8_146 dX8_simulate_83 (s8_wholeError (kget rfl) k3 k4.1) (by decide) (Nat.le_of_ble_eq_true rfl) ⟨Nat.zero_le _, Nat.zero_le _⟩ ?_
        refine p_ireturn (pc := 86) false rfl rfl rfl dX8_simulate_86 (Nat.zero_le _) (Nat.zero_le _) (Or.inl rfl) ?_
        rw [ea]
        exact mo (by rw [k5]; rfl) (by rw [k2.1 0 (by omega)]; rfl) ((h.ii0 (nI 0)).ks k2)
      | succ m ih =>
        intro i s9 y S1 k1 k2 k3 k4 k5
        refine r_iload6 (pc := 45) dX8_simulate_45 ?_
        refine r_iload3 (pc := 47) dX8_simulate_47 ?_
        refine n_icmp_ge (pc := 48) 79 (by decide) dX8_simulate_48 (by omega) (by omega) (fun hc48 => absurd hc48 (by omega)) (fun hc48 => ?_)
        refine r_lload4 (pc := 51) dX8_simulate_51 ?_
        refine r_ldc2 (v := (6364136223846793005)) (pc := 53) (tG 1414 (by decide +kernel) (by decide +kernel)) dX8_simulate_53 ?_
        refine r_lmul (pc := 56) dX8_simulate_56 ?_
        refine r_ldc2 (v := (1442695040888963407)) (pc := 57) (tG 1415 (by decide +kernel) (by decide +kernel)) dX8_simulate_57 ?_
        refine r_ladd (pc := 60) dX8_simulate_60 ?_
        refine r_lstore4 (pc := 61) dX8_simulate_61 rfl ?_
        refine r_aload0 (pc := 63) dX8_simulate_63 ?_
        refine r_lload4 (pc := 64) dX8_simulate_64 ?_
        refine n_bipush (pc := 66) 33 (by decide) dX8_simulate_66 ?_
        refine r_lushr (pc := 68) dX8_simulate_68 ?_
        refine r_l2i (pc := 69) dX8_simulate_69 ?_
        generalize hs9 : s9 * 6364136223846793005 + 1442695040888963407 = t9
        have hs9 : nxS s9 = t9 := hs9
        subst hs9
        change G mX8_simulate 12 (.inl false) 0 0 (tMo M b (A_simulate s (nI n) w)) none 0 0 70 _ [.int (((nxS s9).toUInt64 >>> ((nI 33).toInt64.toUInt64 &&& Int64.toUInt64 63)).toInt64.toInt32), .ref b] (kset M b S1)
        rw [rnd_eq]
        refine r_callV1w (pc := 70) lk_X8_285 dX8_simulate_70 (kget0 rfl) (s8_turnBy k3 k4.1 k4.2 (rnd_lt (nxS s9)))  (by decide) (Nat.le_of_ble_eq_true rfl) ⟨Nat.zero_le _, Nat.zero_le _⟩ (fun M9 h9 => ?_)
        obtain ⟨S2, q1, q2, rfl⟩ := h9
        refine n_iinc6 (pc := 73) dX8_simulate_73 rfl ?_
        refine r_goto (pc := 76) 45 (by decide) dX8_simulate_76 ?_
        rw [simL_s] at k5
        exact ih (i + 1) (nxS s9) (simR y (nxS s9)) S2 (by omega) (k2.tr q1) q2 (simR_ot k4 _) k5
    exact lp n 0 s (wz w) _ (by omega) ((KS.rf _).i2 _) hI2 hW.1 rfl
theorem bgL_s (n : Nat) : bgL (n + 1) = bgL n * 1000000 := rfl
theorem inL_S {s : Int64} {m : Nat} (hm : m ≤ 3) : (decide ((0 : Int64) ≤ s) && decide (s ≤ bgL m - 1)) = inS m s := by
  have hp : 1 ≤ 1000000 ^ m ∧ 1000000 ^ m ≤ 1000000000000000000 := by
    have c : m = 0 ∨ m = 1 ∨ m = 2 ∨ m = 3 := by omega
    rcases c with e | e | e | e <;> subst e <;> decide
  have e1 : bgL m - 1 = lI (1000000 ^ m - 1) := by
    rw [bgL_lI hm, show (1 : Int64) = lI 1 from rfl]
    show Int64.ofNat _ - Int64.ofNat 1 = _
    rw [← Int64.ofNat_sub _ _ hp.1]; rfl
  rw [e1]
  have e2 : decide ((0 : Int64) ≤ s) = decide (0 ≤ s.toInt) := by rw [decide_eq_decide, Int64.le_iff_toInt_le]; rfl
  have e3 : decide (s ≤ lI (1000000 ^ m - 1)) = decide (s.toInt < ((1000000 ^ m : Nat) : Int)) := by
    rw [decide_eq_decide, Int64.le_iff_toInt_le, lI_toInt (by omega)]
    omega
  rw [e2, e3]
  unfold inS
  by_cases h1 : 0 ≤ s.toInt <;> by_cases h2 : s.toInt < ((1000000 ^ m : Nat) : Int) <;> simp [h1, h2]
theorem s8_inS {s : Int64} {m : Nat} (hm : m ≤ 3) : Spec mX8_in 1 0 0 [.long s, .long 0, .long (bgL m - 1)] M (some (.int (bI (inS m s)))) M := by
  have h := s8_in (M := M) (v := s) (lo := 0) (hi := bgL m - 1)
  rw [inL_S hm] at h
  exact h
set_option maxRecDepth 20000 in
theorem s8_runScript (h : MODEL S w) (hW : WOK w) {x : Int32} {s : Int64} : SpecP mX8_runScript 12 0 0 [.ref b, .int x, .long s] (kset M b S) (tMo M b (A_runScript x s w)) := by
  have hZ := hW.z
  have hd := hZ.dims
  have hI := h.r
  have hk14 := hW.2.1.1
  have hn120 := hW.2.2.2.1
  have ha := h.a
  have hn := h.n
  have hM : kset M b S (b + 2) = some (cI 563 (S.2 1)) := kget rfl
  refine Spec_of [some (.ref b), some (.int x), some (.long s), none, none, none, none, none] (by decide) (Nat.le_of_ble_eq_true rfl) rfl ?_
  have ea : A_runScript x s w = if inB x 1 3 && inS (nm x) s then rO (oI (scrL (nm x) s.toInt.toNat (nm x) 0 (wz w))) w else rN 1 w := rfl
  have no : ∀ (a4 a6 : Value), A_runScript x s w = rN 1 w →
    G mX8_runScript 12 (.inl false) 0 0 (tMo M b (A_runScript x s w)) none 0 0 62 [some (.ref b), some (.int x), some (.long s), none, some a4, none, some a6, none] [.int (nI 1), .ref b] (kset M b S)
    := by
    intro a4 a6 e
    refine r_callV1i (pc := 62) lk_X8_167 dX8_runScript_62 (kget0 rfl) (s8_refused (by decide)) (by decide) (Nat.le_of_ble_eq_true rfl) ⟨Nat.zero_le _, Nat.zero_le _⟩ ?_
    refine b_if_eq (b := true) (pc := 65) 70 (by decide) dX8_runScript_65 (fun h9 => by cases h9) (fun _ => ?_)
    refine n_iconst_0 (pc := 68) dX8_runScript_68 ?_
    refine p_ireturn (pc := 69) false rfl rfl rfl dX8_runScript_69 (Nat.zero_le _) (Nat.zero_le _) (Or.inl rfl) ?_
    rw [e]
    exact mo rfl rfl (h.ii0 (nI 1))
  refine r_lconst_1 (pc := 0) dX8_runScript_0 ?_
  refine r_lstore4 (pc := 1) dX8_runScript_1 rfl ?_
  refine n_iconst_0 (pc := 3) dX8_runScript_3 ?_
  refine r_istore6 (pc := 4) dX8_runScript_4 rfl ?_
  by_cases hx : x < 1
  · have ei : inB x 1 3 = false := by
      refine decide_eq_false (fun q => ?_)
      have := Int32.lt_iff_toInt_lt.mp hx
      have e1 : (1 : Int32).toInt = 1 := rfl
      omega
    refine r_iload6 (pc := 6) dX8_runScript_6 ?_
    refine r_iload1 (pc := 8) dX8_runScript_8 ?_
    refine r_icmp_ge (pc := 9) 32 (by decide) dX8_runScript_9 (fun _ => ?_) (fun h9 => absurd (Int32.le_iff_toInt_le.mpr (by have := Int32.lt_iff_toInt_lt.mp hx; have e1 : (1 : Int32).toInt = 1 := rfl; have e0 : (nI 0).toInt = 0 := rfl; omega)) h9)
    refine r_aload0 (pc := 32) dX8_runScript_32 ?_
    refine r_iload1 (pc := 33) dX8_runScript_33 ?_
    refine r_i2l (pc := 34) dX8_runScript_34 ?_
    refine r_lconst_1 (pc := 35) dX8_runScript_35 ?_
    refine r_ldc2 (v := (3)) (pc := 36) (tG 1403 (by decide +kernel) (by decide +kernel)) dX8_runScript_36 ?_
    refine r_callS3i (pc := 39) lk_X8_50 dX8_runScript_39 (s8_inAB (a := 1) (b := 3) (by decide) (by decide)) (by decide) (Nat.le_of_ble_eq_true rfl) ⟨Nat.zero_le _, Nat.zero_le _⟩ ?_
    rw [ei]
    refine b_if_eq (b := false) (pc := 42) 61 (by decide) dX8_runScript_42 (fun _ => ?_) (fun h9 => by cases h9)
    refine n_iconst_1 (pc := 61) dX8_runScript_61 ?_
    exact no _ _ (by rw [ea, ei]; rfl)
  · have hx1 : 1 ≤ x.toInt := by
      have := Int32.not_lt.mp hx
      have := Int32.le_iff_toInt_le.mp this
      have e1 : (1 : Int32).toInt = 1 := rfl
      omega
    have hx2 := Int32.toInt_lt x
    have hxn : x = nI (nm x) := by
      apply Int32.toInt_inj.mp
      rw [nI_toInt (by unfold nm; omega)]
      unfold nm
      omega
    have hn1 : 1 ≤ nm x := by unfold nm; omega
    have hn2 : nm x < 2147483648 := by unfold nm; omega
    have ei : inB x 1 3 = decide (nm x ≤ 3) := by
      unfold inB
      rw [decide_eq_decide]
      unfold nm
      omega
    generalize hnm : nm x = n at *
    subst hxn
    have mid :
      G mX8_runScript 12 (.inl false) 0 0 (tMo M b (A_runScript (nI n) s w)) none 0 0 32 [some (.ref b), some (.int (nI n)), some (.long s), none, some (.long (bgL (min n 3))), none, some (.int (nI (min n 3))), none] [] (kset M b S)
      := by
      refine r_aload0 (pc := 32) dX8_runScript_32 ?_
      refine r_iload1 (pc := 33) dX8_runScript_33 ?_
      refine r_i2l (pc := 34) dX8_runScript_34 ?_
      refine r_lconst_1 (pc := 35) dX8_runScript_35 ?_
      refine r_ldc2 (v := (3)) (pc := 36) (tG 1403 (by decide +kernel) (by decide +kernel)) dX8_runScript_36 ?_
      refine r_callS3i (pc := 39) lk_X8_50 dX8_runScript_39 (s8_inAB (a := 1) (b := 3) (by decide) (by decide)) (by decide) (Nat.le_of_ble_eq_true rfl) ⟨Nat.zero_le _, Nat.zero_le _⟩ ?_
      rw [ei]
      refine b_if_eq (pc := 42) 61 (by decide) dX8_runScript_42 (fun h1 => ?_) (fun h1 => ?_)
      · refine n_iconst_1 (pc := 61) dX8_runScript_61 ?_
        exact no _ _ (by rw [ea, ei, h1]; rfl)
      · have h3 := of_decide_eq_true h1
        rw [show min n 3 = n by omega]
        refine r_lload2 (pc := 45) dX8_runScript_45 ?_
        refine r_lconst_0 (pc := 46) dX8_runScript_46 ?_
        refine r_lload4 (pc := 47) dX8_runScript_47 ?_
        refine r_lconst_1 (pc := 49) dX8_runScript_49 ?_
        refine r_lsub (pc := 50) dX8_runScript_50 ?_
        refine r_callS3i (pc := 51) lk_X8_50 dX8_runScript_51 (s8_inS h3) (by decide) (Nat.le_of_ble_eq_true rfl) ⟨Nat.zero_le _, Nat.zero_le _⟩ ?_
        refine b_if_eq (pc := 54) 61 (by decide) dX8_runScript_54 (fun h2 => ?_) (fun h2 => ?_)
        · refine n_iconst_1 (pc := 61) dX8_runScript_61 ?_
          exact no _ _ (by rw [ea, ei, h1, h2]; rfl)
        · rw [ei, h1, h2] at ea
          have ea : A_runScript (nI n) s w = rO (oI (scrL n s.toInt.toNat n 0 (wz w))) w := ea
          have hs := of_decide_eq_true h2
          have hes := lI_of hs.1
          have hp : 1000000 ^ n ≤ 1000000000000000000 := by
            have c : n = 1 ∨ n = 2 ∨ n = 3 := by omega
            rcases c with e | e | e <;> subst e <;> decide
          have hsb : s.toInt.toNat < 9223372036854775808 := by omega
          generalize s.toInt.toNat = sn at *
          subst hes
          refine n_iconst_0 (pc := 57) dX8_runScript_57 ?_
          refine r_goto (pc := 58) 62 (by decide) dX8_runScript_58 ?_
          refine r_callV1i (pc := 62) lk_X8_167 dX8_runScript_62 (kget0 rfl) (s8_refused (by decide)) (by decide) (Nat.le_of_ble_eq_true rfl) ⟨Nat.zero_le _, Nat.zero_le _⟩ ?_
          refine b_if_eq (b := false) (pc := 65) 70 (by decide) dX8_runScript_65 (fun _ => ?_) (fun h9 => by cases h9)
          refine r_aload0 (pc := 70) dX8_runScript_70 ?_
          refine r_getf (pc := 71) fl_X8_13 dX8_runScript_71 (kget0 rfl) rfl ?_
          refine n_iconst_0 (pc := 74) dX8_runScript_74 ?_
          refine r_aload0 (pc := 75) dX8_runScript_75 ?_
          refine r_getf (pc := 76) fl_X8_16 dX8_runScript_76 (kget0 rfl) rfl ?_
          refine n_iconst_0 (pc := 79) dX8_runScript_79 ?_
          refine r_callS4v (pc := 80) lk_X8_234 dX8_runScript_80 cp_12 (by decide) (Nat.le_of_ble_eq_true rfl) ⟨Nat.zero_le _, Nat.zero_le _⟩ ?_
          have hI2 : InvR ((ia (ii S 0 (nI 0)) 2 (cpR (S.2 1) (S.2 2) 0 0 563)).2 2) (wz w) := InvR.cg hI hZ (fun j hj => by
            have e := cpR_in (f := S.2 1) (g := S.2 2) (i0 := 0) (i1 := 0) (n := 563) hj
            rw [Nat.zero_add] at e
            exact e)
          refine n_iconst_0 (pc := 83) dX8_runScript_83 ?_
          refine r_istore6 (pc := 84) dX8_runScript_84 rfl ?_
          have lp : ∀ (fu i : Nat) (y : ZS) (S1 : BS) (a7 : Option Value), i + fu = n → KS (ii S 0 (nI 0)) S1 → InvR (S1.2 2) y → zOT y → scrL n sn fu i y = scrL n sn n 0 (wz w) →
            G mX8_runScript 12 (.inl false) 0 0 (tMo M b (A_runScript (nI n) (lI sn) w)) none 0 0 86 [some (.ref b), some (.int (nI n)), some (.long (lI sn)), none, some (.long (bgL (n - i))), none, some (.int (nI i)), a7] [] (kset M b S1)
            := by
            intro fu
            induction fu with
            | zero =>
              intro i y S1 a7 k1 k2 k3 k4 k5
              have k5 : none = scrL n sn n 0 (wz w) := k5
              refine r_iload6 (pc := 86) dX8_runScript_86 ?_
              refine r_iload1 (pc := 88) dX8_runScript_88 ?_
              refine n_icmp_ge (pc := 89) 139 (by decide) dX8_runScript_89 (by omega) (by omega) (fun hc89 => ?_) (fun hc89 => absurd hc89 (by omega))
              refine r_iconst_m1 (pc := 139) dX8_runScript_139 ?_
              refine p_ireturn (pc := 140) false rfl rfl rfl dX8_runScript_140 (Nat.zero_le _) (Nat.zero_le _) (Or.inl rfl) ?_
              rw [ea]
              exact mo (by rw [← k5]; rfl) (by rw [k2.1 0 (by omega)]; rfl) ((h.ii0 (nI 0)).ks k2)
            | succ fu ih =>
              intro i y S1 a7 k1 k2 k3 k4 k5
              have hpi : 1 ≤ 1000000 ^ (n - 1 - i) ∧ 1000000 ^ (n - 1 - i) ≤ 1000000000000 := by
                have c : n - 1 - i = 0 ∨ n - 1 - i = 1 ∨ n - 1 - i = 2 := by omega
                rcases c with e | e | e <;> rw [e] <;> decide
              have hdiv : bgL (n - i) / 1000000 = lI (1000000 ^ (n - 1 - i)) := by
                rw [show n - i = n - 1 - i + 1 by omega, bgL_lI (by omega), show (1000000 : Int64) = lI 1000000 from rfl, lI_div (by rw [Nat.pow_succ]; omega) (by decide) (by decide), Nat.pow_succ, Nat.mul_div_cancel _ (by decide)]
              have hgrp : lI sn / lI (1000000 ^ (n - 1 - i)) - lI sn / lI (1000000 ^ (n - 1 - i)) / 1000000 * 1000000 = lI (sn / 1000000 ^ (n - 1 - i) % 1000000) := by
                have hle : sn / 1000000 ^ (n - 1 - i) ≤ sn := Nat.div_le_self _ _
                rw [lI_div hsb (by omega) (by omega), show (1000000 : Int64) = lI 1000000 from rfl, lI_rem (by omega) (by decide) (by decide)]
              refine G_fgt 7 ?_
              refine r_iload6 (pc := 86) dX8_runScript_86 ?_
              refine r_iload1 (pc := 88) dX8_runScript_88 ?_
              refine n_icmp_ge (pc := 89) 139 (by decide) dX8_runScript_89 (by omega) (by omega) (fun hc89 => absurd hc89 (by omega)) (fun hc89 => ?_)
              refine r_lload4 (pc := 92) dX8_runScript_92 ?_
              refine r_ldc2 (v := (1000000)) (pc := 94) (tG 1402 (by decide +kernel) (by decide +kernel)) dX8_runScript_94 ?_
              refine r_ldiv (pc := 97) dX8_runScript_97 (by decide) ?_
              rw [hdiv]
              have hne : ¬ lI (1000000 ^ (n - 1 - i)) = 0 := by
                intro q
                have q2 := congrArg Int64.toInt q
                rw [lI_toInt (by omega)] at q2
                have e0 : (0 : Int64).toInt = 0 := rfl
                omega
              refine r_lstore4 (pc := 98) dX8_runScript_98 rfl ?_
              refine r_lload2 (pc := 100) dX8_runScript_100 ?_
              refine r_lload4 (pc := 101) dX8_runScript_101 ?_
              refine r_ldiv (pc := 103) dX8_runScript_103 hne ?_
              refine r_ldc2 (v := (1000000)) (pc := 104) (tG 1402 (by decide +kernel) (by decide +kernel)) dX8_runScript_104 ?_
              refine r_lrem (pc := 107) dX8_runScript_107 (by decide) ?_
              rw [hgrp]
              refine r_l2i (pc := 108) dX8_runScript_108 ?_
              rw [lI_int]
              have hg6 : sn / 1000000 ^ (n - 1 - i) % 1000000 < 1000000 := Nat.mod_lt _ (by decide)
              have sc : scrL n sn (fu + 1) i y = if (grpZ y (sn / 1000000 ^ (n - 1 - i) % 1000000)).1 then scrL n sn fu (i + 1) (grpZ y (sn / 1000000 ^ (n - 1 - i) % 1000000)).2 else some i := rfl
              generalize sn / 1000000 ^ (n - 1 - i) % 1000000 = g at *
              refine r_istore7 (pc := 109) dX8_runScript_109 rfl ?_
              refine r_aload0 (pc := 111) dX8_runScript_111 ?_
              refine r_iload7 (pc := 112) dX8_runScript_112 ?_
              refine r_ldcw (v := nI 100000) (pc := 114) (tG 1404 (by decide +kernel) (by decide +kernel)) dX8_runScript_114 ?_
              refine n_idiv (pc := 117) dX8_runScript_117 (by omega) (by omega) (by omega) ?_
              refine r_iload7 (pc := 118) dX8_runScript_118 ?_
              refine r_ldcw (v := nI 100000) (pc := 120) (tG 1404 (by decide +kernel) (by decide +kernel)) dX8_runScript_120 ?_
              refine n_irem (pc := 123) dX8_runScript_123 (by omega) (by omega) (by omega) ?_
              refine r_callV2x (pc := 124) lk_X8_275 dX8_runScript_124 (kget0 rfl) (s8_command k3 k4.1 hg6)  (by decide) (Nat.le_of_ble_eq_true rfl) ⟨Nat.zero_le _, Nat.zero_le _⟩ (fun M9 h9 => ?_)
              obtain ⟨S2, q1, q2, rfl⟩ := h9
              refine b_if_ne (pc := 127) 133 (by decide) dX8_runScript_127 (fun h9 => ?_) (fun h9 => ?_)
              · rw [h9] at sc
                refine n_iinc6 (pc := 133) dX8_runScript_133 rfl ?_
                refine r_goto (pc := 136) 86 (by decide) dX8_runScript_136 ?_
                rw [← bgL_lI (n := n - 1 - i) (by omega), show n - 1 - i = n - (i + 1) by omega]
                exact ih (i + 1) _ S2 _ (by omega) (k2.tr q1) q2 (grpZ_ot k4 _) (by rw [← k5, sc]; rfl)
              · rw [h9] at sc
                refine r_iload6 (pc := 130) dX8_runScript_130 ?_
                refine p_ireturn (pc := 132) false rfl rfl rfl dX8_runScript_132 (Nat.zero_le _) (Nat.zero_le _) (Or.inl rfl) ?_
                rw [ea]
                exact mo (by rw [← k5, sc]; rfl) (by rw [(k2.tr q1).1 0 (by omega)]; rfl) ((h.ii0 (nI 0)).ks (k2.tr q1))
          have q := lp n 0 (wz w) _ none (by omega) ((KS.rf _).i2 _) hI2 hW.1 rfl
          rw [Nat.sub_zero] at q
          exact q
    refine up_to (N := min n 3) (k := 0) (fun i =>
      G mX8_runScript 12 (.inl false) 0 0 (tMo M b (A_runScript (nI n) s w)) none 0 0 6 [some (.ref b), some (.int (nI n)), some (.long s), none, some (.long (bgL i)), none, some (.int (nI i)), none] [] (kset M b S)
      ) ?_ (fun i hi ih => ?_) (Nat.zero_le _)
    · refine r_iload6 (pc := 6) dX8_runScript_6 ?_
      refine r_iload1 (pc := 8) dX8_runScript_8 ?_
      refine n_icmp_ge (pc := 9) 32 (by decide) dX8_runScript_9 (by omega) (by omega) (fun _ => mid) (fun h1 => ?_)
      refine r_iload6 (pc := 12) dX8_runScript_12 ?_
      refine n_iconst_3 (pc := 14) dX8_runScript_14 ?_
      refine n_icmp_ge (pc := 15) 32 (by decide) dX8_runScript_15 (by omega) (by omega) (fun _ => mid) (fun h2 => absurd h2 (by omega))
    · refine r_iload6 (pc := 6) dX8_runScript_6 ?_
      refine r_iload1 (pc := 8) dX8_runScript_8 ?_
      refine n_icmp_ge (pc := 9) 32 (by decide) dX8_runScript_9 (by omega) (by omega) (fun hc9 => absurd hc9 (by omega)) (fun hc9 => ?_)
      refine r_iload6 (pc := 12) dX8_runScript_12 ?_
      refine n_iconst_3 (pc := 14) dX8_runScript_14 ?_
      refine n_icmp_ge (pc := 15) 32 (by decide) dX8_runScript_15 (by omega) (by omega) (fun hc15 => absurd hc15 (by omega)) (fun hc15 => ?_)
      refine r_lload4 (pc := 18) dX8_runScript_18 ?_
      refine r_ldc2 (v := (1000000)) (pc := 20) (tG 1402 (by decide +kernel) (by decide +kernel)) dX8_runScript_20 ?_
      refine r_lmul (pc := 23) dX8_runScript_23 ?_
      refine r_lstore4 (pc := 24) dX8_runScript_24 rfl ?_
      refine n_iinc6 (pc := 26) dX8_runScript_26 rfl ?_
      refine r_goto (pc := 29) 6 (by decide) dX8_runScript_29 ?_
      exact ih
end MSCR
