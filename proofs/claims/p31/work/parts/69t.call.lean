/-! the law's call: one number for each of its methods -/
def rA (es : List Int32) (r : RA) : Int32 × WS := (vA es r, r.2.2)
def cA (k : Nat) (a b c : Int32) (w : WS) : Int32 × WS := match k with
  | 0 => rA [cAR, cST] (A_append a w)
  | 1 => rA [cST] (A_load w)
  | 2 => rA [cAR] (A_about a w)
  | 3 => rA [cIX, cAR] (A_square a b c w)
  | 4 => rA [cIX, cAR] (A_place a b w)
  | 5 => rA [cIX, cAR] (A_tile a b w)
  | 6 => rA [cAR] (A_begin a b w)
  | 7 => rA [cIX, cAR] (A_grey a b c w)
  | 8 => rA [cAR] (A_fade a b w)
  | 9 => rA [cIX, cST] (A_turn a w)
  | 10 => rA [cIX, cAR, cST] (A_swap a b w)
  | 11 => rA [cIX, cST] (A_flip a b w)
  | 12 => rA [cAR] (A_improve a w)
  | 13 => rA [cST] (A_undo w)
  | 14 => rA [cAR] (A_gain a w)
  | 15 => rA [cAR] (A_best a w)
  | 16 => rA [cAR] (A_ifImproved a b w)
  | 17 => rA [cIX] (A_worst a w)
  | 18 => rA [cIX] (A_fits a w)
  | 19 => rA [cIX] (A_save a w)
  | _ => rA [cIX, cST] (A_restore a w)
theorem keep_runScript {x : Int32} {s : Int64} {w : WS} : (A_runScript x s w).2.2 = w := by
  unfold A_runScript
  (repeat' split) <;> rfl
theorem keep_simulate {s : Int64} {x : Int32} {w : WS} : (A_simulate s x w).2.2 = w := by
  unfold A_simulate
  (repeat' split) <;> rfl
theorem keep_about {x : Int32} {w : WS} : (A_about x w).2.2 = w := by
  unfold A_about
  (repeat' split) <;> rfl
theorem keep_square {x : Int32} {y : Int32} {g : Int32} {w : WS} : (A_square x y g w).2.2 = w := by
  unfold A_square
  (repeat' split) <;> rfl
theorem keep_place {x : Int32} {y : Int32} {w : WS} : (A_place x y w).2.2 = w := by
  unfold A_place
  (repeat' split) <;> rfl
theorem keep_tile {x : Int32} {y : Int32} {w : WS} : (A_tile x y w).2.2 = w := by
  unfold A_tile
  (repeat' split) <;> rfl
theorem keep_gain {x : Int32} {w : WS} : (A_gain x w).2.2 = w := by
  unfold A_gain
  (repeat' split) <;> rfl
theorem keep_best {x : Int32} {w : WS} : (A_best x w).2.2 = w := by
  unfold A_best
  (repeat' split) <;> rfl
theorem keep_ifImproved {x : Int32} {y : Int32} {w : WS} : (A_ifImproved x y w).2.2 = w := by
  unfold A_ifImproved
  (repeat' split) <;> rfl
theorem keep_worst {x : Int32} {w : WS} : (A_worst x w).2.2 = w := by
  unfold A_worst
  (repeat' split) <;> rfl
theorem keep_fits {x : Int32} {w : WS} : (A_fits x w).2.2 = w := by
  unfold A_fits
  (repeat' split) <;> rfl
theorem wok_cA {w : WS} (h : WOK w) (k : Nat) (a b c : Int32) : WOK (cA k a b c w).2 := by
  unfold cA
  split
  · exact wok_append h
  · exact wok_load h
  · show WOK (A_about a w).2.2
    rw [keep_about]; exact h
  · show WOK (A_square a b c w).2.2
    rw [keep_square]; exact h
  · show WOK (A_place a b w).2.2
    rw [keep_place]; exact h
  · show WOK (A_tile a b w).2.2
    rw [keep_tile]; exact h
  · exact wok_begin h
  · exact wok_grey h
  · exact wok_fade h
  · exact wok_turn h
  · exact wok_swap h
  · exact wok_flip h
  · exact wok_improve h
  · exact wok_undo h
  · show WOK (A_gain a w).2.2
    rw [keep_gain]; exact h
  · show WOK (A_best a w).2.2
    rw [keep_best]; exact h
  · show WOK (A_ifImproved a b w).2.2
    rw [keep_ifImproved]; exact h
  · show WOK (A_worst a w).2.2
    rw [keep_worst]; exact h
  · show WOK (A_fits a w).2.2
    rw [keep_fits]; exact h
  · exact wok_save h
  · exact wok_restore h
set_option maxRecDepth 20000 in
theorem s_call0 {k : Nat} (hk : k ≤ 20) (a b c : Int32) {w : WS} (hO : WOK w) (M : Mem) (hF : FACE M w) : SpecP mL_call 10 1 6 [.ref 0, .int (nI k), .int a, .int b, .int c] M (tV M (cA k a b c w).1 (cA k a b c w).2) := by
  refine Spec_of [some (.ref 0), some (.int (nI k)), some (.int a), some (.int b), some (.int c)] (by decide) (Nat.le_of_ble_eq_true rfl) rfl ?_
  refine r_iload1 (pc := 0) dL_call_0 ?_
  have c9 : k = 0 ∨ k = 1 ∨ k = 2 ∨ k = 3 ∨ k = 4 ∨ k = 5 ∨ k = 6 ∨ k = 7 ∨ k = 8 ∨ k = 9 ∨ k = 10 ∨ k = 11 ∨ k = 12 ∨ k = 13 ∨ k = 14 ∨ k = 15 ∨ k = 16 ∨ k = 17 ∨ k = 18 ∨ k = 19 ∨ k = 20 := by omega
  rcases c9 with h | h | h | h | h | h | h | h | h | h | h | h | h | h | h | h | h | h | h | h | h <;> subst h
  · refine r_tableIn (pc := 1) 96 (by decide) (by decide) rfl (by decide) dL_call_1 ?_
    refine r_aload0 (pc := 96) dL_call_96 ?_
    refine r_iload2 (pc := 97) dL_call_97 ?_
    refine G_callSW (pc := 98) (as := [.ref 0, .int a]) (rest := []) rfl lkw_97 dL_call_98 (sL_tryAppend hF hO) (by decide) rfl (by decide) (by decide) (fun r1 M1 h1 => ?_)
    obtain ⟨e1, h1⟩ := h1
    cases e1
    exact p_ireturn (pc := 101) false rfl rfl rfl dL_call_101 (by decide) (by decide) (Or.inl rfl) ⟨rfl, h1⟩
  · refine r_tableIn (pc := 1) 102 (by decide) (by decide) rfl (by decide) dL_call_1 ?_
    refine r_aload0 (pc := 102) dL_call_102 ?_
    refine G_callSW (pc := 103) (as := [.ref 0]) (rest := []) rfl lkw_103 dL_call_103 (sL_tryLoad hF hO) (by decide) rfl (by decide) (by decide) (fun r1 M1 h1 => ?_)
    obtain ⟨e1, h1⟩ := h1
    cases e1
    exact p_ireturn (pc := 106) false rfl rfl rfl dL_call_106 (by decide) (by decide) (Or.inl rfl) ⟨rfl, h1⟩
  · refine r_tableIn (pc := 1) 107 (by decide) (by decide) rfl (by decide) dL_call_1 ?_
    refine r_aload0 (pc := 107) dL_call_107 ?_
    refine r_iload2 (pc := 108) dL_call_108 ?_
    refine G_callSW (pc := 109) (as := [.ref 0, .int a]) (rest := []) rfl lkw_107 dL_call_109 (sL_tryAbout hF hO) (by decide) rfl (by decide) (by decide) (fun r1 M1 h1 => ?_)
    obtain ⟨e1, h1⟩ := h1
    cases e1
    exact p_ireturn (pc := 112) false rfl rfl rfl dL_call_112 (by decide) (by decide) (Or.inl rfl) ⟨rfl, h1⟩
  · refine r_tableIn (pc := 1) 113 (by decide) (by decide) rfl (by decide) dL_call_1 ?_
    refine r_aload0 (pc := 113) dL_call_113 ?_
    refine r_iload2 (pc := 114) dL_call_114 ?_
    refine r_iload3 (pc := 115) dL_call_115 ?_
    refine r_iload4 (pc := 116) dL_call_116 ?_
    refine G_callSW (pc := 118) (as := [.ref 0, .int a, .int b, .int c]) (rest := []) rfl lkw_110 dL_call_118 (sL_trySpot hF hO) (by decide) rfl (by decide) (by decide) (fun r1 M1 h1 => ?_)
    obtain ⟨e1, h1⟩ := h1
    cases e1
    exact p_ireturn (pc := 121) false rfl rfl rfl dL_call_121 (by decide) (by decide) (Or.inl rfl) ⟨rfl, h1⟩
  · refine r_tableIn (pc := 1) 122 (by decide) (by decide) rfl (by decide) dL_call_1 ?_
    refine r_aload0 (pc := 122) dL_call_122 ?_
    refine r_iload2 (pc := 123) dL_call_123 ?_
    refine r_iload3 (pc := 124) dL_call_124 ?_
    refine G_callSW (pc := 125) (as := [.ref 0, .int a, .int b]) (rest := []) rfl lkw_114 dL_call_125 (sL_tryPlace hF hO) (by decide) rfl (by decide) (by decide) (fun r1 M1 h1 => ?_)
    obtain ⟨e1, h1⟩ := h1
    cases e1
    exact p_ireturn (pc := 128) false rfl rfl rfl dL_call_128 (by decide) (by decide) (Or.inl rfl) ⟨rfl, h1⟩
  · refine r_tableIn (pc := 1) 129 (by decide) (by decide) rfl (by decide) dL_call_1 ?_
    refine r_aload0 (pc := 129) dL_call_129 ?_
    refine r_iload2 (pc := 130) dL_call_130 ?_
    refine r_iload3 (pc := 131) dL_call_131 ?_
    refine G_callSW (pc := 132) (as := [.ref 0, .int a, .int b]) (rest := []) rfl lkw_118 dL_call_132 (sL_tryTile hF hO) (by decide) rfl (by decide) (by decide) (fun r1 M1 h1 => ?_)
    obtain ⟨e1, h1⟩ := h1
    cases e1
    exact p_ireturn (pc := 135) false rfl rfl rfl dL_call_135 (by decide) (by decide) (Or.inl rfl) ⟨rfl, h1⟩
  · refine r_tableIn (pc := 1) 136 (by decide) (by decide) rfl (by decide) dL_call_1 ?_
    refine r_aload0 (pc := 136) dL_call_136 ?_
    refine r_iload2 (pc := 137) dL_call_137 ?_
    refine r_iload3 (pc := 138) dL_call_138 ?_
    refine G_callSW (pc := 139) (as := [.ref 0, .int a, .int b]) (rest := []) rfl lkw_121 dL_call_139 (sL_tryBegin hF hO) (by decide) rfl (by decide) (by decide) (fun r1 M1 h1 => ?_)
    obtain ⟨e1, h1⟩ := h1
    cases e1
    exact p_ireturn (pc := 142) false rfl rfl rfl dL_call_142 (by decide) (by decide) (Or.inl rfl) ⟨rfl, h1⟩
  · refine r_tableIn (pc := 1) 143 (by decide) (by decide) rfl (by decide) dL_call_1 ?_
    refine r_aload0 (pc := 143) dL_call_143 ?_
    refine r_iload2 (pc := 144) dL_call_144 ?_
    refine r_iload3 (pc := 145) dL_call_145 ?_
    refine r_iload4 (pc := 146) dL_call_146 ?_
    refine G_callSW (pc := 148) (as := [.ref 0, .int a, .int b, .int c]) (rest := []) rfl lkw_124 dL_call_148 (sL_tryGrey hF hO) (by decide) rfl (by decide) (by decide) (fun r1 M1 h1 => ?_)
    obtain ⟨e1, h1⟩ := h1
    cases e1
    exact p_ireturn (pc := 151) false rfl rfl rfl dL_call_151 (by decide) (by decide) (Or.inl rfl) ⟨rfl, h1⟩
  · refine r_tableIn (pc := 1) 152 (by decide) (by decide) rfl (by decide) dL_call_1 ?_
    refine r_aload0 (pc := 152) dL_call_152 ?_
    refine r_iload2 (pc := 153) dL_call_153 ?_
    refine r_iload3 (pc := 154) dL_call_154 ?_
    refine G_callSW (pc := 155) (as := [.ref 0, .int a, .int b]) (rest := []) rfl lkw_127 dL_call_155 (sL_tryFade hF hO) (by decide) rfl (by decide) (by decide) (fun r1 M1 h1 => ?_)
    obtain ⟨e1, h1⟩ := h1
    cases e1
    exact p_ireturn (pc := 158) false rfl rfl rfl dL_call_158 (by decide) (by decide) (Or.inl rfl) ⟨rfl, h1⟩
  · refine r_tableIn (pc := 1) 159 (by decide) (by decide) rfl (by decide) dL_call_1 ?_
    refine r_aload0 (pc := 159) dL_call_159 ?_
    refine r_iload2 (pc := 160) dL_call_160 ?_
    refine G_callSW (pc := 161) (as := [.ref 0, .int a]) (rest := []) rfl lkw_130 dL_call_161 (sL_tryTurn hF hO) (by decide) rfl (by decide) (by decide) (fun r1 M1 h1 => ?_)
    obtain ⟨e1, h1⟩ := h1
    cases e1
    exact p_ireturn (pc := 164) false rfl rfl rfl dL_call_164 (by decide) (by decide) (Or.inl rfl) ⟨rfl, h1⟩
  · refine r_tableIn (pc := 1) 165 (by decide) (by decide) rfl (by decide) dL_call_1 ?_
    refine r_aload0 (pc := 165) dL_call_165 ?_
    refine r_iload2 (pc := 166) dL_call_166 ?_
    refine r_iload3 (pc := 167) dL_call_167 ?_
    refine G_callSW (pc := 168) (as := [.ref 0, .int a, .int b]) (rest := []) rfl lkw_133 dL_call_168 (sL_trySwap hF hO) (by decide) rfl (by decide) (by decide) (fun r1 M1 h1 => ?_)
    obtain ⟨e1, h1⟩ := h1
    cases e1
    exact p_ireturn (pc := 171) false rfl rfl rfl dL_call_171 (by decide) (by decide) (Or.inl rfl) ⟨rfl, h1⟩
  · refine r_tableIn (pc := 1) 172 (by decide) (by decide) rfl (by decide) dL_call_1 ?_
    refine r_aload0 (pc := 172) dL_call_172 ?_
    refine r_iload2 (pc := 173) dL_call_173 ?_
    refine r_iload3 (pc := 174) dL_call_174 ?_
    refine G_callSW (pc := 175) (as := [.ref 0, .int a, .int b]) (rest := []) rfl lkw_136 dL_call_175 (sL_tryFlip hF hO) (by decide) rfl (by decide) (by decide) (fun r1 M1 h1 => ?_)
    obtain ⟨e1, h1⟩ := h1
    cases e1
    exact p_ireturn (pc := 178) false rfl rfl rfl dL_call_178 (by decide) (by decide) (Or.inl rfl) ⟨rfl, h1⟩
  · refine r_tableIn (pc := 1) 179 (by decide) (by decide) rfl (by decide) dL_call_1 ?_
    refine r_aload0 (pc := 179) dL_call_179 ?_
    refine r_iload2 (pc := 180) dL_call_180 ?_
    refine G_callSW (pc := 181) (as := [.ref 0, .int a]) (rest := []) rfl lkw_139 dL_call_181 (sL_tryImprove hF hO) (by decide) rfl (by decide) (by decide) (fun r1 M1 h1 => ?_)
    obtain ⟨e1, h1⟩ := h1
    cases e1
    exact p_ireturn (pc := 184) false rfl rfl rfl dL_call_184 (by decide) (by decide) (Or.inl rfl) ⟨rfl, h1⟩
  · refine r_tableIn (pc := 1) 185 (by decide) (by decide) rfl (by decide) dL_call_1 ?_
    refine r_aload0 (pc := 185) dL_call_185 ?_
    refine G_callSW (pc := 186) (as := [.ref 0]) (rest := []) rfl lkw_142 dL_call_186 (sL_tryUndo hF hO) (by decide) rfl (by decide) (by decide) (fun r1 M1 h1 => ?_)
    obtain ⟨e1, h1⟩ := h1
    cases e1
    exact p_ireturn (pc := 189) false rfl rfl rfl dL_call_189 (by decide) (by decide) (Or.inl rfl) ⟨rfl, h1⟩
  · refine r_tableIn (pc := 1) 190 (by decide) (by decide) rfl (by decide) dL_call_1 ?_
    refine r_aload0 (pc := 190) dL_call_190 ?_
    refine r_iload2 (pc := 191) dL_call_191 ?_
    refine G_callSW (pc := 192) (as := [.ref 0, .int a]) (rest := []) rfl lkw_145 dL_call_192 (sL_tryGain hF hO) (by decide) rfl (by decide) (by decide) (fun r1 M1 h1 => ?_)
    obtain ⟨e1, h1⟩ := h1
    cases e1
    exact p_ireturn (pc := 195) false rfl rfl rfl dL_call_195 (by decide) (by decide) (Or.inl rfl) ⟨rfl, h1⟩
  · refine r_tableIn (pc := 1) 196 (by decide) (by decide) rfl (by decide) dL_call_1 ?_
    refine r_aload0 (pc := 196) dL_call_196 ?_
    refine r_iload2 (pc := 197) dL_call_197 ?_
    refine G_callSW (pc := 198) (as := [.ref 0, .int a]) (rest := []) rfl lkw_148 dL_call_198 (sL_tryBest hF hO) (by decide) rfl (by decide) (by decide) (fun r1 M1 h1 => ?_)
    obtain ⟨e1, h1⟩ := h1
    cases e1
    exact p_ireturn (pc := 201) false rfl rfl rfl dL_call_201 (by decide) (by decide) (Or.inl rfl) ⟨rfl, h1⟩
  · refine r_tableIn (pc := 1) 202 (by decide) (by decide) rfl (by decide) dL_call_1 ?_
    refine r_aload0 (pc := 202) dL_call_202 ?_
    refine r_iload2 (pc := 203) dL_call_203 ?_
    refine r_iload3 (pc := 204) dL_call_204 ?_
    refine G_callSW (pc := 205) (as := [.ref 0, .int a, .int b]) (rest := []) rfl lkw_151 dL_call_205 (sL_tryIf hF hO) (by decide) rfl (by decide) (by decide) (fun r1 M1 h1 => ?_)
    obtain ⟨e1, h1⟩ := h1
    cases e1
    exact p_ireturn (pc := 208) false rfl rfl rfl dL_call_208 (by decide) (by decide) (Or.inl rfl) ⟨rfl, h1⟩
  · refine r_tableIn (pc := 1) 209 (by decide) (by decide) rfl (by decide) dL_call_1 ?_
    refine r_aload0 (pc := 209) dL_call_209 ?_
    refine r_iload2 (pc := 210) dL_call_210 ?_
    refine G_callSW (pc := 211) (as := [.ref 0, .int a]) (rest := []) rfl lkw_154 dL_call_211 (sL_tryWorst hF hO) (by decide) rfl (by decide) (by decide) (fun r1 M1 h1 => ?_)
    obtain ⟨e1, h1⟩ := h1
    cases e1
    exact p_ireturn (pc := 214) false rfl rfl rfl dL_call_214 (by decide) (by decide) (Or.inl rfl) ⟨rfl, h1⟩
  · refine r_tableIn (pc := 1) 215 (by decide) (by decide) rfl (by decide) dL_call_1 ?_
    refine r_aload0 (pc := 215) dL_call_215 ?_
    refine r_iload2 (pc := 216) dL_call_216 ?_
    refine G_callSW (pc := 217) (as := [.ref 0, .int a]) (rest := []) rfl lkw_157 dL_call_217 (sL_tryFits hF hO) (by decide) rfl (by decide) (by decide) (fun r1 M1 h1 => ?_)
    obtain ⟨e1, h1⟩ := h1
    cases e1
    exact p_ireturn (pc := 220) false rfl rfl rfl dL_call_220 (by decide) (by decide) (Or.inl rfl) ⟨rfl, h1⟩
  · refine r_tableIn (pc := 1) 221 (by decide) (by decide) rfl (by decide) dL_call_1 ?_
    refine r_aload0 (pc := 221) dL_call_221 ?_
    refine r_iload2 (pc := 222) dL_call_222 ?_
    refine G_callSW (pc := 223) (as := [.ref 0, .int a]) (rest := []) rfl lkw_160 dL_call_223 (sL_tryKeep hF hO) (by decide) rfl (by decide) (by decide) (fun r1 M1 h1 => ?_)
    obtain ⟨e1, h1⟩ := h1
    cases e1
    exact p_ireturn (pc := 226) false rfl rfl rfl dL_call_226 (by decide) (by decide) (Or.inl rfl) ⟨rfl, h1⟩
  · refine r_tableOut (pc := 1) 227 (by decide) (by decide) dL_call_1 ?_
    refine r_aload0 (pc := 227) dL_call_227 ?_
    refine r_iload2 (pc := 228) dL_call_228 ?_
    refine G_callSW (pc := 229) (as := [.ref 0, .int a]) (rest := []) rfl lkw_163 dL_call_229 (sL_tryBack hF hO) (by decide) rfl (by decide) (by decide) (fun r1 M1 h1 => ?_)
    obtain ⟨e1, h1⟩ := h1
    cases e1
    exact p_ireturn (pc := 232) false rfl rfl rfl dL_call_232 (by decide) (by decide) (Or.inl rfl) ⟨rfl, h1⟩
/-! both portraits -/
def W2 (w1 w2 : WS) : Bool → WS := fun b => match b with
  | false => w1
  | true => w2
theorem upW_f (w1 w2 w' : WS) : upW (W2 w1 w2) false w' = W2 w' w2 := by
  funext c; cases c <;> rfl
theorem upW_t (w1 w2 w' : WS) : upW (W2 w1 w2) true w' = W2 w1 w' := by
  funext c; cases c <;> rfl
/-- an answer v, and nothing else is other than it was -/
def tK (M : Mem) (W : Bool → WS) (v : Int32) : TG := tP (some (.int v)) (fun Mf => TW Mf W ∧ ∀ i, 328 ≤ i → Mf i = M i)
theorem s_do (b : Bool) {M : Mem} {W : Bool → WS} (hT : TW M W) (hO : WOK (W b)) {k : Nat} (hk : k ≤ 20) {a1 a2 a3 v : Int32} {w' : WS} (h : cA k a1 a2 a3 (W b) = (v, w')) : SpecP mL_call 10 1 6 [.ref (rb b), .int (nI k), .int a1, .int a2, .int a3] M (tQ b M W v w') := by
  have h1 := liftP (as := [.int (nI k), .int a1, .int a2, .int a3]) (fun M hF => s_call0 hk a1 a2 a3 hO M hF) rfl b hT rfl
  rw [h] at h1
  exact h1
theorem tQ_K (b : Bool) (M : Mem) (W : Bool → WS) (v : Int32) : tQ b M W v (W b) = tK M W v := by
  unfold tQ tK
  rw [upW_self]
theorem s_ask (b : Bool) {M : Mem} {W : Bool → WS} (hT : TW M W) (hO : WOK (W b)) {k : Nat} (hk : k ≤ 20) {a1 a2 a3 v : Int32} (h : cA k a1 a2 a3 (W b) = (v, W b)) : SpecP mL_call 10 1 6 [.ref (rb b), .int (nI k), .int a1, .int a2, .int a3] M (tK M W v) := by
  rw [← tQ_K b]; exact s_do b hT hO hk h
def tD0 (M : Mem) (v : Int32) (w1 w2 : WS) : TG := tP (some (.int v)) (fun Mf => TW Mf (W2 w1 w2) ∧ ∀ i, 328 ≤ i → Mf i = M i)
theorem s_do0 {M : Mem} {w1 w2 : WS} (hT : TW M (W2 w1 w2)) (hO : WOK w1) {k : Nat} (hk : k ≤ 20) {a1 a2 a3 v : Int32} {w' : WS} (h : cA k a1 a2 a3 w1 = (v, w')) : SpecP mL_call 10 1 6 [.ref 0, .int (nI k), .int a1, .int a2, .int a3] M (tD0 M v w' w2) := by
  have h1 := s_do false hT hO hk h
  unfold tQ at h1
  rw [upW_f] at h1
  exact h1
theorem s_do1 {M : Mem} {w1 w2 : WS} (hT : TW M (W2 w1 w2)) (hO : WOK w2) {k : Nat} (hk : k ≤ 20) {a1 a2 a3 v : Int32} {w' : WS} (h : cA k a1 a2 a3 w2 = (v, w')) : SpecP mL_call 10 1 6 [.ref 164, .int (nI k), .int a1, .int a2, .int a3] M (tD0 M v w1 w') := by
  have h1 := s_do true hT hO hk h
  unfold tQ at h1
  rw [upW_t] at h1
  exact h1
theorem s_holds (b : Bool) {M : Mem} {W : Bool → WS} (hT : TW M W) (hO : WOK (W b)) (x : Int32) (v : Bool) : SpecW mL_holds [(0, 6, 7, 13)] 9 1 6 [.ref (rb b), .int x, .int (bI v)] M (tQ b M W (vA [cIX] (A_hold x v (W b))) (A_hold x v (W b)).2.2) :=
  liftW (as := [.int x, .int (bI v)]) (fun M hF => sL_holds hF hO) rfl b hT rfl
theorem s_doScript (b : Bool) {M : Mem} {W : Bool → WS} (hT : TW M W) (hO : WOK (W b)) (x : Int32) (s : Int64) : SpecW mL_doScript [(0, 6, 7, 20)] 9 1 6 [.ref (rb b), .int x, .long s] M (tQ b M W (vA [cAR] (A_runScript x s (W b))) (A_runScript x s (W b)).2.2) :=
  liftW (as := [.int x, .long s]) (fun M hF => sL_doScript hF hO) rfl b hT rfl
theorem s_doSimulate (b : Bool) {M : Mem} {W : Bool → WS} (hT : TW M W) (hO : WOK (W b)) (s : Int64) (x : Int32) : SpecW mL_doSimulate [(0, 6, 7, 20)] 9 1 6 [.ref (rb b), .long s, .int x] M (tQ b M W (vA [cAR] (A_simulate s x (W b))) (A_simulate s x (W b)).2.2) :=
  liftW (as := [.long s, .int x]) (fun M hF => sL_doSimulate hF hO) rfl b hT rfl
theorem tFV {M : Mem} {r : RA} {v9 : Option Value} {Mf : Mem} (h : tFc [] M r (.inl v9) Mf) : tV M r.2.1 r.2.2 (.inl v9) Mf := by
  obtain ⟨h1, h2, h3, h4⟩ := h
  subst h4
  exact ⟨rfl, h1, h2⟩
theorem s_least2 (b : Bool) {M : Mem} {W : Bool → WS} (hT : TW M W) (hO : WOK (W b)) : SpecP mX7_least 8 0 0 [.ref (rb b)] M (tK M W (iI (leastZ (wz (W b))))) := by
  rw [← tQ_K b]
  exact liftP (as := []) (fun M hF => SpecP_mono' (s7_least hF hO) (fun v9 Mf h => tFV h)) rfl b hT rfl
theorem s_lay2 (b : Bool) {M : Mem} {W : Bool → WS} (hT : TW M W) (hO : WOK (W b)) : SpecP mX7_lay 8 0 0 [.ref (rb b)] M (tQ b M W (A_lay (W b)).2.1 (A_lay (W b)).2.2) :=
  liftP (as := []) (fun M hF => SpecP_mono' (s7_lay hF hO) (fun v9 Mf h => tFV h)) rfl b hT rfl
section LCALLS
variable {q : MI} {d : Nat} {x : XM} {mc ms : Nat} {oc : TG} {al : Option Nat} {cs ss pc : Nat} {lv : List (Option Value)} {st : List Value} {M : Mem}
theorem r_call5 {r k : Nat} {a b c v : Int32} {P : Mem → Prop} (hq : q.1.cls = RL) (hal0 : al = none) (h0 : dec q pc = .ok (.invokestatic 168, 3)) (hsp : SpecP mL_call 10 1 6 [.ref r, .int (nI k), .int a, .int b, .int c] M (tP (some (.int v)) P)) (g_d : 11 ≤ d) (hW : (st.map fun v => v.category).sum ≤ 8) (hcs : cs + 1 ≤ mc ∧ ss + 6 ≤ ms)
    (kk : ∀ M1 : Mem, P M1 → G q d x mc ms oc al (cs + 1) (ss + 6) (pc + 3) lv (.int v :: st) M1) : G q d x mc ms oc al cs ss pc lv (.int c :: .int b :: .int a :: .int (nI k) :: .ref r :: st) M := by
  have lk := lk_L_168
  rw [← hq] at lk
  exact G_callS (as := [.ref r, .int (nI k), .int a, .int b, .int c]) lk h0 hsp g_d rfl hW hcs (Or.inl hal0) (fun r9 M9 h9 => by obtain ⟨e8, e9⟩ := h9; cases e8; exact kk M9 e9)
theorem r_callL {y : MI} {idx n d' mc' ms' : Nat} {as rest : List Value} {v : Int32} {P : Mem → Prop} (lk : LkS q.1.cls idx y n) (hal0 : al = none) (h0 : dec q pc = .ok (.invokestatic idx, 3)) (hsp : SpecP y d' mc' ms' as M (tP (some (.int v)) P)) (g_d : d' + 1 ≤ d) (hn : as.length = n) (hst : as.reverse ++ rest = st) (hW : (rest.map fun v => v.category).sum ≤ 8) (hcs : cs + mc' ≤ mc ∧ ss + ms' ≤ ms)
    (kk : ∀ M1 : Mem, P M1 → G q d x mc ms oc al (cs + mc') (ss + ms') (pc + 3) lv (.int v :: rest) M1) : G q d x mc ms oc al cs ss pc lv st M := by
  subst hst
  exact G_callS lk h0 hsp g_d hn hW hcs (Or.inl hal0) (fun r9 M9 h9 => by obtain ⟨e8, e9⟩ := h9; cases e8; exact kk M9 e9)
theorem r_callW3 {y : MI} {idx r : Nat} {w2 w3 : Value} {hh : List (Nat × Nat × Nat × Nat)} {v : Int32} {P : Mem → Prop} (lk : LkSW q.1.cls idx y hh 3) (hal0 : al = none) (h0 : dec q pc = .ok (.invokestatic idx, 3)) (hsp : SpecW y hh 9 1 6 [.ref r, w2, w3] M (tP (some (.int v)) P)) (g_d : 10 ≤ d) (hW : (st.map fun v => v.category).sum ≤ 8) (hcs : cs + 1 ≤ mc ∧ ss + 6 ≤ ms)
    (kk : ∀ M1 : Mem, P M1 → G q d x mc ms oc al (cs + 1) (ss + 6) (pc + 3) lv (.int v :: st) M1) : G q d x mc ms oc al cs ss pc lv (w3 :: w2 :: .ref r :: st) M :=
  G_callSW (as := [.ref r, w2, w3]) hal0 lk h0 hsp g_d rfl hW hcs (fun r9 M9 h9 => by obtain ⟨e8, e9⟩ := h9; cases e8; exact kk M9 e9)
theorem r_ineg {a : Int32} (h0 : dec q pc = .ok (.ineg, 1)) (k : G q d x mc ms oc al cs ss (pc + 1) lv (.int (-a) :: st) M) : G q d x mc ms oc al cs ss pc lv (.int a :: st) M := by
  intro p l e R s m args below meth c H locs Q D nx nz ad ca A ls C hd hP hS hal hl
  obtain ⟨hx, hb, hml, hr, hown, hts, hK, hE, hA, hJ, hAd, hlk, hst, hRm, hmd⟩ := id C
  exact lv_ineg hx hb h0 (k p l e R s m args below meth c H locs Q D nx nz ad ca A ls C hd hP hS hal hl)
theorem z_ineg {a : Int} (h0 : dec q pc = .ok (.ineg, 1)) (k : G q d x mc ms oc al cs ss (pc + 1) lv (.int (iI (-a)) :: st) M) : G q d x mc ms oc al cs ss pc lv (.int (iI a) :: st) M := by
  refine r_ineg h0 ?_
  rw [show -(iI a) = iI (-a) by simp [iI, Int32.ofInt_neg]]
  exact k
end LCALLS
