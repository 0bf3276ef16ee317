/-! one thing done with a portrait: X says which -/
def actM (m Y : Nat) (w : WS) : Int32 × WS := match m with
  | 0 => if Y % 4 = 0 then cA 6 (nI (2 + Y / 4 % 4)) (nI (1 + Y / 16 % 2)) (nI 0) w else cA 12 (nI (1 + Y % 3)) (nI 0) (nI 0) w
  | 5 => cA 8 (nI (Y % 100)) (nI (Y / 100 % 100)) (nI 0) w
  | 6 => cA 9 (nI (Y % zt (wz w))) (nI 0) (nI 0) w
  | 7 => cA 10 (nI (Y % zt (wz w))) (nI (Y / 64 % zt (wz w))) (nI 0) w
  | 8 => cA 10 (nI (Y % zt (wz w))) (nI (Y / 64 % zt (wz w))) (nI 0) w
  | 9 => cA 11 (nI (Y % zc (wz w))) (nI (Y / 8 % zr (wz w))) (nI 0) w
  | 10 => cA 11 (nI (Y % zc (wz w))) (nI (Y / 8 % zr (wz w))) (nI 0) w
  | 11 => rA [cIX] (A_hold (nI (Y % zt (wz w))) (decide (Y / 64 % 2 = 0)) w)
  | 12 => ((A_lay w).2.1, (A_lay w).2.2)
  | 13 => if Y % 2 = 0 then cA 19 (nI (Y / 2 % 2)) (nI 0) (nI 0) w else cA 20 (nI (Y / 2 % 2)) (nI 0) (nI 0) w
  | 14 => cA 13 (nI 0) (nI 0) (nI 0) w
  | 15 => cA 12 (nI (1 + Y % 2)) (nI 0) (nI 0) w
  | _ => cA 7 (nI (Y % zc (wz w))) (nI (Y / 8 % zr (wz w))) (nI (Y / 128 % 100)) w
def actZ (X : Nat) (w : WS) : Int32 × WS := actM (X % 16) (X / 16) w
theorem wok_act {w : WS} (h : WOK w) (X : Nat) : WOK (actZ X w).2 := by
  unfold actZ
  generalize X % 16 = m
  unfold actM
  split
  · split
    · exact wok_cA h _ _ _ _
    · exact wok_cA h _ _ _ _
  · exact wok_cA h _ _ _ _
  · exact wok_cA h _ _ _ _
  · exact wok_cA h _ _ _ _
  · exact wok_cA h _ _ _ _
  · exact wok_cA h _ _ _ _
  · exact wok_cA h _ _ _ _
  · exact wok_hold h
  · exact wok_lay h
  · split
    · exact wok_cA h _ _ _ _
    · exact wok_cA h _ _ _ _
  · exact wok_cA h _ _ _ _
  · exact wok_cA h _ _ _ _
  · exact wok_cA h _ _ _ _
theorem pair_eta {r : Int32 × WS} : r = (r.1, r.2) := rfl
set_option maxRecDepth 20000 in
theorem s_act (b : Bool) {M : Mem} {W : Bool → WS} (hT : TW M W) (hO : WOK (W b)) {X : Nat} (hX0 : X < 2147483648) : SpecP mL_act 11 5 30 [.ref (rb b), .int (nI X)] M (tQ b M W (actZ X (W b)).1 (actZ X (W b)).2) := by
  have hZ := hO.z
  have hd := hZ.dims
  have hX : ∀ i, 328 ≤ i → M i = M i := fun _ _ => rfl
  have e0 : actZ X (W b) = actM (X % 16) (X / 16) (W b) := rfl
  rw [e0]
  refine Spec_of [some (.ref (rb b)), some (.int (nI X)), none, none, none, none] (by decide) (Nat.le_of_ble_eq_true rfl) rfl ?_
  refine r_iload1 (pc := 0) dL_act_0 ?_
  refine n_bipush (pc := 1) 16 (by decide) dL_act_1 ?_
  refine n_idiv (pc := 3) dL_act_3 (by omega) (by omega) (by omega) ?_
  refine r_istore2 (pc := 4) dL_act_4 rfl ?_
  refine r_aload0 (pc := 5) dL_act_5 ?_
  refine n_iconst_2 (pc := 6) dL_act_6 ?_
  refine n_iconst_2 (pc := 7) dL_act_7 ?_
  refine n_iconst_0 (pc := 8) dL_act_8 ?_
  refine n_iconst_0 (pc := 9) dL_act_9 ?_
  refine r_call5 (pc := 10) rfl rfl dL_act_10 (s_ask b hT hO (by decide) q_ab2) (by decide) (Nat.le_of_ble_eq_true rfl) ⟨by decide, by decide⟩ (fun M9 h9 => ?_)
  obtain ⟨hT, hY⟩ := h9
  have hX : ∀ i, 328 ≤ i → M9 i = M i := fun i hi => (hY i hi).trans (hX i hi)
  clear hY
  refine r_istore3 (pc := 13) dL_act_13 rfl ?_
  refine r_aload0 (pc := 14) dL_act_14 ?_
  refine n_iconst_2 (pc := 15) dL_act_15 ?_
  refine n_iconst_3 (pc := 16) dL_act_16 ?_
  refine n_iconst_0 (pc := 17) dL_act_17 ?_
  refine n_iconst_0 (pc := 18) dL_act_18 ?_
  refine r_call5 (pc := 19) rfl rfl dL_act_19 (s_ask b hT hO (by decide) q_ab3) (by decide) (Nat.le_of_ble_eq_true rfl) ⟨by decide, by decide⟩ (fun M9 h9 => ?_)
  obtain ⟨hT, hY⟩ := h9
  have hX : ∀ i, 328 ≤ i → M9 i = M i := fun i hi => (hY i hi).trans (hX i hi)
  clear hY
  refine r_istore4 (pc := 22) dL_act_22 rfl ?_
  refine r_aload0 (pc := 24) dL_act_24 ?_
  refine n_iconst_2 (pc := 25) dL_act_25 ?_
  refine n_iconst_4 (pc := 26) dL_act_26 ?_
  refine n_iconst_0 (pc := 27) dL_act_27 ?_
  refine n_iconst_0 (pc := 28) dL_act_28 ?_
  refine r_call5 (pc := 29) rfl rfl dL_act_29 (s_ask b hT hO (by decide) q_ab4) (by decide) (Nat.le_of_ble_eq_true rfl) ⟨by decide, by decide⟩ (fun M9 h9 => ?_)
  obtain ⟨hT, hY⟩ := h9
  have hX : ∀ i, 328 ≤ i → M9 i = M i := fun i hi => (hY i hi).trans (hX i hi)
  clear hY
  refine r_istore5 (pc := 32) dL_act_32 rfl ?_
  refine r_iload1 (pc := 34) dL_act_34 ?_
  refine n_bipush (pc := 35) 16 (by decide) dL_act_35 ?_
  refine n_irem (pc := 37) dL_act_37 (by omega) (by omega) (by omega) ?_
  have hY : X / 16 < 2147483648 := by omega
  have hm : X % 16 < 16 := by omega
  generalize X / 16 = Y at hY ⊢
  generalize X % 16 = m at hm ⊢
  have c : m = 0 ∨ m = 1 ∨ m = 2 ∨ m = 3 ∨ m = 4 ∨ m = 5 ∨ m = 6 ∨ m = 7 ∨ m = 8 ∨ m = 9 ∨ m = 10 ∨ m = 11 ∨ m = 12 ∨ m = 13 ∨ m = 14 ∨ m = 15 := by omega
  rcases c with c | c | c | c | c | c | c | c | c | c | c | c | c | c | c | c <;> subst c
  · refine r_tableIn (pc := 38) 112 (by decide) (by decide) rfl (by decide) dL_act_38 ?_
    refine r_iload2 (pc := 112) dL_act_112 ?_
    refine n_iconst_4 (pc := 113) dL_act_113 ?_
    refine n_irem (pc := 114) dL_act_114 (by omega) (by omega) (by omega) ?_
    by_cases h4 : Y % 4 = 0
    · have e : actM 0 Y (W b) = cA 6 (nI (2 + Y / 4 % 4)) (nI (1 + Y / 16 % 2)) (nI 0) (W b) := if_pos h4
      rw [e]
      refine n_if_ne (pc := 115) 143 (by decide) dL_act_115 (by omega) (fun hc115 => absurd hc115 (by omega)) (fun hc115 => ?_)
      refine r_aload0 (pc := 118) dL_act_118 ?_
      refine n_bipush (pc := 119) 6 (by decide) dL_act_119 ?_
      refine n_iconst_2 (pc := 121) dL_act_121 ?_
      refine r_iload2 (pc := 122) dL_act_122 ?_
      refine n_iconst_4 (pc := 123) dL_act_123 ?_
      refine n_idiv (pc := 124) dL_act_124 (by omega) (by omega) (by omega) ?_
      refine n_iconst_4 (pc := 125) dL_act_125 ?_
      refine n_irem (pc := 126) dL_act_126 (by omega) (by omega) (by omega) ?_
      first | refine n_iadd (pc := 127) dL_act_127 ?_ | refine z_iadd (pc := 127) dL_act_127 ?_ | refine r_iadd (pc := 127) dL_act_127 ?_
      refine n_iconst_1 (pc := 128) dL_act_128 ?_
      refine r_iload2 (pc := 129) dL_act_129 ?_
      refine n_bipush (pc := 130) 16 (by decide) dL_act_130 ?_
      refine n_idiv (pc := 132) dL_act_132 (by omega) (by omega) (by omega) ?_
      refine n_iconst_2 (pc := 133) dL_act_133 ?_
      refine n_irem (pc := 134) dL_act_134 (by omega) (by omega) (by omega) ?_
      first | refine n_iadd (pc := 135) dL_act_135 ?_ | refine z_iadd (pc := 135) dL_act_135 ?_ | refine r_iadd (pc := 135) dL_act_135 ?_
      refine n_iconst_0 (pc := 136) dL_act_136 ?_
      refine r_call5 (pc := 137) rfl rfl dL_act_137 (s_do b hT hO (by decide) pair_eta) (by decide) (Nat.le_of_ble_eq_true rfl) ⟨by decide, by decide⟩ (fun M9 h9 => ?_)
      obtain ⟨hT, hY⟩ := h9
      have hX : ∀ i, 328 ≤ i → M9 i = M i := fun i hi => (hY i hi).trans (hX i hi)
      clear hY
      refine r_goto (pc := 140) 156 (by decide) dL_act_140 ?_
      exact p_ireturn (pc := 156) false rfl rfl rfl dL_act_156 (by decide) (by decide) (Or.inl rfl) ⟨rfl, hT, hX⟩
    · have e : actM 0 Y (W b) = cA 12 (nI (1 + Y % 3)) (nI 0) (nI 0) (W b) := if_neg h4
      rw [e]
      refine n_if_ne (pc := 115) 143 (by decide) dL_act_115 (by omega) (fun hc115 => ?_) (fun hc115 => absurd hc115 (by omega))
      refine r_aload0 (pc := 143) dL_act_143 ?_
      refine n_bipush (pc := 144) 12 (by decide) dL_act_144 ?_
      refine n_iconst_1 (pc := 146) dL_act_146 ?_
      refine r_iload2 (pc := 147) dL_act_147 ?_
      refine n_iconst_3 (pc := 148) dL_act_148 ?_
      refine n_irem (pc := 149) dL_act_149 (by omega) (by omega) (by omega) ?_
      first | refine n_iadd (pc := 150) dL_act_150 ?_ | refine z_iadd (pc := 150) dL_act_150 ?_ | refine r_iadd (pc := 150) dL_act_150 ?_
      refine n_iconst_0 (pc := 151) dL_act_151 ?_
      refine n_iconst_0 (pc := 152) dL_act_152 ?_
      refine r_call5 (pc := 153) rfl rfl dL_act_153 (s_do b hT hO (by decide) pair_eta) (by decide) (Nat.le_of_ble_eq_true rfl) ⟨by decide, by decide⟩ (fun M9 h9 => ?_)
      obtain ⟨hT, hY⟩ := h9
      have hX : ∀ i, 328 ≤ i → M9 i = M i := fun i hi => (hY i hi).trans (hX i hi)
      clear hY
      exact p_ireturn (pc := 156) false rfl rfl rfl dL_act_156 (by decide) (by decide) (Or.inl rfl) ⟨rfl, hT, hX⟩
  · refine r_tableIn (pc := 38) 157 (by decide) (by decide) rfl (by decide) dL_act_38 ?_
    refine r_aload0 (pc := 157) dL_act_157 ?_
    refine n_bipush (pc := 158) 7 (by decide) dL_act_158 ?_
    refine r_iload2 (pc := 160) dL_act_160 ?_
    refine r_iload3 (pc := 161) dL_act_161 ?_
    refine n_irem (pc := 162) dL_act_162 (by omega) (by omega) (by omega) ?_
    refine r_iload2 (pc := 163) dL_act_163 ?_
    refine n_bipush (pc := 164) 8 (by decide) dL_act_164 ?_
    refine n_idiv (pc := 166) dL_act_166 (by omega) (by omega) (by omega) ?_
    refine r_iload4 (pc := 167) dL_act_167 ?_
    refine n_irem (pc := 169) dL_act_169 (by omega) (by omega) (by omega) ?_
    refine r_iload2 (pc := 170) dL_act_170 ?_
    refine n_sipush (pc := 171) 128 (by decide) dL_act_171 ?_
    refine n_idiv (pc := 174) dL_act_174 (by omega) (by omega) (by omega) ?_
    refine n_bipush (pc := 175) 100 (by decide) dL_act_175 ?_
    refine n_irem (pc := 177) dL_act_177 (by omega) (by omega) (by omega) ?_
    refine r_call5 (pc := 178) rfl rfl dL_act_178 (s_do b hT hO (by decide) pair_eta) (by decide) (Nat.le_of_ble_eq_true rfl) ⟨by decide, by decide⟩ (fun M9 h9 => ?_)
    obtain ⟨hT, hY⟩ := h9
    have hX : ∀ i, 328 ≤ i → M9 i = M i := fun i hi => (hY i hi).trans (hX i hi)
    clear hY
    exact p_ireturn (pc := 181) false rfl rfl rfl dL_act_181 (by decide) (by decide) (Or.inl rfl) ⟨rfl, hT, hX⟩
  · refine r_tableIn (pc := 38) 157 (by decide) (by decide) rfl (by decide) dL_act_38 ?_
    refine r_aload0 (pc := 157) dL_act_157 ?_
    refine n_bipush (pc := 158) 7 (by decide) dL_act_158 ?_
    refine r_iload2 (pc := 160) dL_act_160 ?_
    refine r_iload3 (pc := 161) dL_act_161 ?_
    refine n_irem (pc := 162) dL_act_162 (by omega) (by omega) (by omega) ?_
    refine r_iload2 (pc := 163) dL_act_163 ?_
    refine n_bipush (pc := 164) 8 (by decide) dL_act_164 ?_
    refine n_idiv (pc := 166) dL_act_166 (by omega) (by omega) (by omega) ?_
    refine r_iload4 (pc := 167) dL_act_167 ?_
    refine n_irem (pc := 169) dL_act_169 (by omega) (by omega) (by omega) ?_
    refine r_iload2 (pc := 170) dL_act_170 ?_
    refine n_sipush (pc := 171) 128 (by decide) dL_act_171 ?_
    refine n_idiv (pc := 174) dL_act_174 (by omega) (by omega) (by omega) ?_
    refine n_bipush (pc := 175) 100 (by decide) dL_act_175 ?_
    refine n_irem (pc := 177) dL_act_177 (by omega) (by omega) (by omega) ?_
    refine r_call5 (pc := 178) rfl rfl dL_act_178 (s_do b hT hO (by decide) pair_eta) (by decide) (Nat.le_of_ble_eq_true rfl) ⟨by decide, by decide⟩ (fun M9 h9 => ?_)
    obtain ⟨hT, hY⟩ := h9
    have hX : ∀ i, 328 ≤ i → M9 i = M i := fun i hi => (hY i hi).trans (hX i hi)
    clear hY
    exact p_ireturn (pc := 181) false rfl rfl rfl dL_act_181 (by decide) (by decide) (Or.inl rfl) ⟨rfl, hT, hX⟩
  · refine r_tableIn (pc := 38) 157 (by decide) (by decide) rfl (by decide) dL_act_38 ?_
    refine r_aload0 (pc := 157) dL_act_157 ?_
    refine n_bipush (pc := 158) 7 (by decide) dL_act_158 ?_
    refine r_iload2 (pc := 160) dL_act_160 ?_
    refine r_iload3 (pc := 161) dL_act_161 ?_
    refine n_irem (pc := 162) dL_act_162 (by omega) (by omega) (by omega) ?_
    refine r_iload2 (pc := 163) dL_act_163 ?_
    refine n_bipush (pc := 164) 8 (by decide) dL_act_164 ?_
    refine n_idiv (pc := 166) dL_act_166 (by omega) (by omega) (by omega) ?_
    refine r_iload4 (pc := 167) dL_act_167 ?_
    refine n_irem (pc := 169) dL_act_169 (by omega) (by omega) (by omega) ?_
    refine r_iload2 (pc := 170) dL_act_170 ?_
    refine n_sipush (pc := 171) 128 (by decide) dL_act_171 ?_
    refine n_idiv (pc := 174) dL_act_174 (by omega) (by omega) (by omega) ?_
    refine n_bipush (pc := 175) 100 (by decide) dL_act_175 ?_
    refine n_irem (pc := 177) dL_act_177 (by omega) (by omega) (by omega) ?_
    refine r_call5 (pc := 178) rfl rfl dL_act_178 (s_do b hT hO (by decide) pair_eta) (by decide) (Nat.le_of_ble_eq_true rfl) ⟨by decide, by decide⟩ (fun M9 h9 => ?_)
    obtain ⟨hT, hY⟩ := h9
    have hX : ∀ i, 328 ≤ i → M9 i = M i := fun i hi => (hY i hi).trans (hX i hi)
    clear hY
    exact p_ireturn (pc := 181) false rfl rfl rfl dL_act_181 (by decide) (by decide) (Or.inl rfl) ⟨rfl, hT, hX⟩
  · refine r_tableIn (pc := 38) 157 (by decide) (by decide) rfl (by decide) dL_act_38 ?_
    refine r_aload0 (pc := 157) dL_act_157 ?_
    refine n_bipush (pc := 158) 7 (by decide) dL_act_158 ?_
    refine r_iload2 (pc := 160) dL_act_160 ?_
    refine r_iload3 (pc := 161) dL_act_161 ?_
    refine n_irem (pc := 162) dL_act_162 (by omega) (by omega) (by omega) ?_
    refine r_iload2 (pc := 163) dL_act_163 ?_
    refine n_bipush (pc := 164) 8 (by decide) dL_act_164 ?_
    refine n_idiv (pc := 166) dL_act_166 (by omega) (by omega) (by omega) ?_
    refine r_iload4 (pc := 167) dL_act_167 ?_
    refine n_irem (pc := 169) dL_act_169 (by omega) (by omega) (by omega) ?_
    refine r_iload2 (pc := 170) dL_act_170 ?_
    refine n_sipush (pc := 171) 128 (by decide) dL_act_171 ?_
    refine n_idiv (pc := 174) dL_act_174 (by omega) (by omega) (by omega) ?_
    refine n_bipush (pc := 175) 100 (by decide) dL_act_175 ?_
    refine n_irem (pc := 177) dL_act_177 (by omega) (by omega) (by omega) ?_
    refine r_call5 (pc := 178) rfl rfl dL_act_178 (s_do b hT hO (by decide) pair_eta) (by decide) (Nat.le_of_ble_eq_true rfl) ⟨by decide, by decide⟩ (fun M9 h9 => ?_)
    obtain ⟨hT, hY⟩ := h9
    have hX : ∀ i, 328 ≤ i → M9 i = M i := fun i hi => (hY i hi).trans (hX i hi)
    clear hY
    exact p_ireturn (pc := 181) false rfl rfl rfl dL_act_181 (by decide) (by decide) (Or.inl rfl) ⟨rfl, hT, hX⟩
  · refine r_tableIn (pc := 38) 182 (by decide) (by decide) rfl (by decide) dL_act_38 ?_
    refine r_aload0 (pc := 182) dL_act_182 ?_
    refine n_bipush (pc := 183) 8 (by decide) dL_act_183 ?_
    refine r_iload2 (pc := 185) dL_act_185 ?_
    refine n_bipush (pc := 186) 100 (by decide) dL_act_186 ?_
    refine n_irem (pc := 188) dL_act_188 (by omega) (by omega) (by omega) ?_
    refine r_iload2 (pc := 189) dL_act_189 ?_
    refine n_bipush (pc := 190) 100 (by decide) dL_act_190 ?_
    refine n_idiv (pc := 192) dL_act_192 (by omega) (by omega) (by omega) ?_
    refine n_bipush (pc := 193) 100 (by decide) dL_act_193 ?_
    refine n_irem (pc := 195) dL_act_195 (by omega) (by omega) (by omega) ?_
    refine n_iconst_0 (pc := 196) dL_act_196 ?_
    refine r_call5 (pc := 197) rfl rfl dL_act_197 (s_do b hT hO (by decide) pair_eta) (by decide) (Nat.le_of_ble_eq_true rfl) ⟨by decide, by decide⟩ (fun M9 h9 => ?_)
    obtain ⟨hT, hY⟩ := h9
    have hX : ∀ i, 328 ≤ i → M9 i = M i := fun i hi => (hY i hi).trans (hX i hi)
    clear hY
    exact p_ireturn (pc := 200) false rfl rfl rfl dL_act_200 (by decide) (by decide) (Or.inl rfl) ⟨rfl, hT, hX⟩
  · refine r_tableIn (pc := 38) 201 (by decide) (by decide) rfl (by decide) dL_act_38 ?_
    refine r_aload0 (pc := 201) dL_act_201 ?_
    refine n_bipush (pc := 202) 9 (by decide) dL_act_202 ?_
    refine r_iload2 (pc := 204) dL_act_204 ?_
    refine r_iload5 (pc := 205) dL_act_205 ?_
    refine n_irem (pc := 207) dL_act_207 (by omega) (by omega) (by omega) ?_
    refine n_iconst_0 (pc := 208) dL_act_208 ?_
    refine n_iconst_0 (pc := 209) dL_act_209 ?_
    refine r_call5 (pc := 210) rfl rfl dL_act_210 (s_do b hT hO (by decide) pair_eta) (by decide) (Nat.le_of_ble_eq_true rfl) ⟨by decide, by decide⟩ (fun M9 h9 => ?_)
    obtain ⟨hT, hY⟩ := h9
    have hX : ∀ i, 328 ≤ i → M9 i = M i := fun i hi => (hY i hi).trans (hX i hi)
    clear hY
    exact p_ireturn (pc := 213) false rfl rfl rfl dL_act_213 (by decide) (by decide) (Or.inl rfl) ⟨rfl, hT, hX⟩
  · refine r_tableIn (pc := 38) 214 (by decide) (by decide) rfl (by decide) dL_act_38 ?_
    refine r_aload0 (pc := 214) dL_act_214 ?_
    refine n_bipush (pc := 215) 10 (by decide) dL_act_215 ?_
    refine r_iload2 (pc := 217) dL_act_217 ?_
    refine r_iload5 (pc := 218) dL_act_218 ?_
    refine n_irem (pc := 220) dL_act_220 (by omega) (by omega) (by omega) ?_
    refine r_iload2 (pc := 221) dL_act_221 ?_
    refine n_bipush (pc := 222) 64 (by decide) dL_act_222 ?_
    refine n_idiv (pc := 224) dL_act_224 (by omega) (by omega) (by omega) ?_
    refine r_iload5 (pc := 225) dL_act_225 ?_
    refine n_irem (pc := 227) dL_act_227 (by omega) (by omega) (by omega) ?_
    refine n_iconst_0 (pc := 228) dL_act_228 ?_
    refine r_call5 (pc := 229) rfl rfl dL_act_229 (s_do b hT hO (by decide) pair_eta) (by decide) (Nat.le_of_ble_eq_true rfl) ⟨by decide, by decide⟩ (fun M9 h9 => ?_)
    obtain ⟨hT, hY⟩ := h9
    have hX : ∀ i, 328 ≤ i → M9 i = M i := fun i hi => (hY i hi).trans (hX i hi)
    clear hY
    exact p_ireturn (pc := 232) false rfl rfl rfl dL_act_232 (by decide) (by decide) (Or.inl rfl) ⟨rfl, hT, hX⟩
  · refine r_tableIn (pc := 38) 214 (by decide) (by decide) rfl (by decide) dL_act_38 ?_
    refine r_aload0 (pc := 214) dL_act_214 ?_
    refine n_bipush (pc := 215) 10 (by decide) dL_act_215 ?_
    refine r_iload2 (pc := 217) dL_act_217 ?_
    refine r_iload5 (pc := 218) dL_act_218 ?_
    refine n_irem (pc := 220) dL_act_220 (by omega) (by omega) (by omega) ?_
    refine r_iload2 (pc := 221) dL_act_221 ?_
    refine n_bipush (pc := 222) 64 (by decide) dL_act_222 ?_
    refine n_idiv (pc := 224) dL_act_224 (by omega) (by omega) (by omega) ?_
    refine r_iload5 (pc := 225) dL_act_225 ?_
    refine n_irem (pc := 227) dL_act_227 (by omega) (by omega) (by omega) ?_
    refine n_iconst_0 (pc := 228) dL_act_228 ?_
    refine r_call5 (pc := 229) rfl rfl dL_act_229 (s_do b hT hO (by decide) pair_eta) (by decide) (Nat.le_of_ble_eq_true rfl) ⟨by decide, by decide⟩ (fun M9 h9 => ?_)
    obtain ⟨hT, hY⟩ := h9
    have hX : ∀ i, 328 ≤ i → M9 i = M i := fun i hi => (hY i hi).trans (hX i hi)
    clear hY
    exact p_ireturn (pc := 232) false rfl rfl rfl dL_act_232 (by decide) (by decide) (Or.inl rfl) ⟨rfl, hT, hX⟩
  · refine r_tableIn (pc := 38) 233 (by decide) (by decide) rfl (by decide) dL_act_38 ?_
    refine r_aload0 (pc := 233) dL_act_233 ?_
    refine n_bipush (pc := 234) 11 (by decide) dL_act_234 ?_
    refine r_iload2 (pc := 236) dL_act_236 ?_
    refine r_iload3 (pc := 237) dL_act_237 ?_
    refine n_irem (pc := 238) dL_act_238 (by omega) (by omega) (by omega) ?_
    refine r_iload2 (pc := 239) dL_act_239 ?_
    refine n_bipush (pc := 240) 8 (by decide) dL_act_240 ?_
    refine n_idiv (pc := 242) dL_act_242 (by omega) (by omega) (by omega) ?_
    refine r_iload4 (pc := 243) dL_act_243 ?_
    refine n_irem (pc := 245) dL_act_245 (by omega) (by omega) (by omega) ?_
    refine n_iconst_0 (pc := 246) dL_act_246 ?_
    refine r_call5 (pc := 247) rfl rfl dL_act_247 (s_do b hT hO (by decide) pair_eta) (by decide) (Nat.le_of_ble_eq_true rfl) ⟨by decide, by decide⟩ (fun M9 h9 => ?_)
    obtain ⟨hT, hY⟩ := h9
    have hX : ∀ i, 328 ≤ i → M9 i = M i := fun i hi => (hY i hi).trans (hX i hi)
    clear hY
    exact p_ireturn (pc := 250) false rfl rfl rfl dL_act_250 (by decide) (by decide) (Or.inl rfl) ⟨rfl, hT, hX⟩
  · refine r_tableIn (pc := 38) 233 (by decide) (by decide) rfl (by decide) dL_act_38 ?_
    refine r_aload0 (pc := 233) dL_act_233 ?_
    refine n_bipush (pc := 234) 11 (by decide) dL_act_234 ?_
    refine r_iload2 (pc := 236) dL_act_236 ?_
    refine r_iload3 (pc := 237) dL_act_237 ?_
    refine n_irem (pc := 238) dL_act_238 (by omega) (by omega) (by omega) ?_
    refine r_iload2 (pc := 239) dL_act_239 ?_
    refine n_bipush (pc := 240) 8 (by decide) dL_act_240 ?_
    refine n_idiv (pc := 242) dL_act_242 (by omega) (by omega) (by omega) ?_
    refine r_iload4 (pc := 243) dL_act_243 ?_
    refine n_irem (pc := 245) dL_act_245 (by omega) (by omega) (by omega) ?_
    refine n_iconst_0 (pc := 246) dL_act_246 ?_
    refine r_call5 (pc := 247) rfl rfl dL_act_247 (s_do b hT hO (by decide) pair_eta) (by decide) (Nat.le_of_ble_eq_true rfl) ⟨by decide, by decide⟩ (fun M9 h9 => ?_)
    obtain ⟨hT, hY⟩ := h9
    have hX : ∀ i, 328 ≤ i → M9 i = M i := fun i hi => (hY i hi).trans (hX i hi)
    clear hY
    exact p_ireturn (pc := 250) false rfl rfl rfl dL_act_250 (by decide) (by decide) (Or.inl rfl) ⟨rfl, hT, hX⟩
  · refine r_tableIn (pc := 38) 251 (by decide) (by decide) rfl (by decide) dL_act_38 ?_
    refine r_aload0 (pc := 251) dL_act_251 ?_
    refine r_iload2 (pc := 252) dL_act_252 ?_
    refine r_iload5 (pc := 253) dL_act_253 ?_
    refine n_irem (pc := 255) dL_act_255 (by omega) (by omega) (by omega) ?_
    refine r_iload2 (pc := 256) dL_act_256 ?_
    refine n_bipush (pc := 257) 64 (by decide) dL_act_257 ?_
    refine n_idiv (pc := 259) dL_act_259 (by omega) (by omega) (by omega) ?_
    refine n_iconst_2 (pc := 260) dL_act_260 ?_
    refine n_irem (pc := 261) dL_act_261 (by omega) (by omega) (by omega) ?_
    by_cases h4 : Y / 64 % 2 = 0
    · have e : actM 11 Y (W b) = rA [cIX] (A_hold (nI (Y % zt (wz (W b)))) true (W b)) := by
        show rA [cIX] (A_hold (nI (Y % zt (wz (W b)))) (decide (Y / 64 % 2 = 0)) (W b)) = _
        rw [decide_eq_true h4]
      rw [e]
      refine n_if_ne (pc := 262) 269 (by decide) dL_act_262 (by omega) (fun hc262 => absurd hc262 (by omega)) (fun hc262 => ?_)
      refine n_iconst_1 (pc := 265) dL_act_265 ?_
      refine r_goto (pc := 266) 270 (by decide) dL_act_266 ?_
      refine r_callW3 (pc := 270) lkw_172 rfl dL_act_270 (s_holds b hT hO _ true) (by decide) (Nat.le_of_ble_eq_true rfl) ⟨by decide, by decide⟩ (fun M9 h9 => ?_)
      obtain ⟨hT, hY⟩ := h9
      have hX : ∀ i, 328 ≤ i → M9 i = M i := fun i hi => (hY i hi).trans (hX i hi)
      clear hY
      exact p_ireturn (pc := 273) false rfl rfl rfl dL_act_273 (by decide) (by decide) (Or.inl rfl) ⟨rfl, hT, hX⟩
    · have e : actM 11 Y (W b) = rA [cIX] (A_hold (nI (Y % zt (wz (W b)))) false (W b)) := by
        show rA [cIX] (A_hold (nI (Y % zt (wz (W b)))) (decide (Y / 64 % 2 = 0)) (W b)) = _
        rw [decide_eq_false h4]
      rw [e]
      refine n_if_ne (pc := 262) 269 (by decide) dL_act_262 (by omega) (fun hc262 => ?_) (fun hc262 => absurd hc262 (by omega))
      refine n_iconst_0 (pc := 269) dL_act_269 ?_
      refine r_callW3 (pc := 270) lkw_172 rfl dL_act_270 (s_holds b hT hO _ false) (by decide) (Nat.le_of_ble_eq_true rfl) ⟨by decide, by decide⟩ (fun M9 h9 => ?_)
      obtain ⟨hT, hY⟩ := h9
      have hX : ∀ i, 328 ≤ i → M9 i = M i := fun i hi => (hY i hi).trans (hX i hi)
      clear hY
      exact p_ireturn (pc := 273) false rfl rfl rfl dL_act_273 (by decide) (by decide) (Or.inl rfl) ⟨rfl, hT, hX⟩
  · have hdd := hd
    refine r_tableIn (pc := 38) 274 (by decide) (by decide) rfl (by decide) dL_act_38 ?_
    refine r_aload0 (pc := 274) dL_act_274 ?_
    refine r_callV0x (pc := 275) lk_L_189 dL_act_275 (hT.obj b) (s_lay2 b hT hO)  (by decide) (Nat.le_of_ble_eq_true rfl) ⟨by decide, by decide⟩ (fun M9 h9 => ?_)
    obtain ⟨hT, hY⟩ := h9
    have hX : ∀ i, 328 ≤ i → M9 i = M i := fun i hi => (hY i hi).trans (hX i hi)
    clear hY
    exact p_ireturn (pc := 278) false rfl rfl rfl dL_act_278 (by decide) (by decide) (Or.inl rfl) ⟨rfl, hT, hX⟩
  · refine r_tableIn (pc := 38) 279 (by decide) (by decide) rfl (by decide) dL_act_38 ?_
    refine r_iload2 (pc := 279) dL_act_279 ?_
    refine n_iconst_2 (pc := 280) dL_act_280 ?_
    refine n_irem (pc := 281) dL_act_281 (by omega) (by omega) (by omega) ?_
    by_cases h4 : Y % 2 = 0
    · have e : actM 13 Y (W b) = cA 19 (nI (Y / 2 % 2)) (nI 0) (nI 0) (W b) := if_pos h4
      rw [e]
      refine n_if_ne (pc := 282) 301 (by decide) dL_act_282 (by omega) (fun hc282 => absurd hc282 (by omega)) (fun hc282 => ?_)
      refine r_aload0 (pc := 285) dL_act_285 ?_
      refine n_bipush (pc := 286) 19 (by decide) dL_act_286 ?_
      refine r_iload2 (pc := 288) dL_act_288 ?_
      refine n_iconst_2 (pc := 289) dL_act_289 ?_
      refine n_idiv (pc := 290) dL_act_290 (by omega) (by omega) (by omega) ?_
      refine n_iconst_2 (pc := 291) dL_act_291 ?_
      refine n_irem (pc := 292) dL_act_292 (by omega) (by omega) (by omega) ?_
      refine n_iconst_0 (pc := 293) dL_act_293 ?_
      refine n_iconst_0 (pc := 294) dL_act_294 ?_
      refine r_call5 (pc := 295) rfl rfl dL_act_295 (s_do b hT hO (by decide) pair_eta) (by decide) (Nat.le_of_ble_eq_true rfl) ⟨by decide, by decide⟩ (fun M9 h9 => ?_)
      obtain ⟨hT, hY⟩ := h9
      have hX : ∀ i, 328 ≤ i → M9 i = M i := fun i hi => (hY i hi).trans (hX i hi)
      clear hY
      refine r_goto (pc := 298) 314 (by decide) dL_act_298 ?_
      exact p_ireturn (pc := 314) false rfl rfl rfl dL_act_314 (by decide) (by decide) (Or.inl rfl) ⟨rfl, hT, hX⟩
    · have e : actM 13 Y (W b) = cA 20 (nI (Y / 2 % 2)) (nI 0) (nI 0) (W b) := if_neg h4
      rw [e]
      refine n_if_ne (pc := 282) 301 (by decide) dL_act_282 (by omega) (fun hc282 => ?_) (fun hc282 => absurd hc282 (by omega))
      refine r_aload0 (pc := 301) dL_act_301 ?_
      refine n_bipush (pc := 302) 20 (by decide) dL_act_302 ?_
      refine r_iload2 (pc := 304) dL_act_304 ?_
      refine n_iconst_2 (pc := 305) dL_act_305 ?_
      refine n_idiv (pc := 306) dL_act_306 (by omega) (by omega) (by omega) ?_
      refine n_iconst_2 (pc := 307) dL_act_307 ?_
      refine n_irem (pc := 308) dL_act_308 (by omega) (by omega) (by omega) ?_
      refine n_iconst_0 (pc := 309) dL_act_309 ?_
      refine n_iconst_0 (pc := 310) dL_act_310 ?_
      refine r_call5 (pc := 311) rfl rfl dL_act_311 (s_do b hT hO (by decide) pair_eta) (by decide) (Nat.le_of_ble_eq_true rfl) ⟨by decide, by decide⟩ (fun M9 h9 => ?_)
      obtain ⟨hT, hY⟩ := h9
      have hX : ∀ i, 328 ≤ i → M9 i = M i := fun i hi => (hY i hi).trans (hX i hi)
      clear hY
      exact p_ireturn (pc := 314) false rfl rfl rfl dL_act_314 (by decide) (by decide) (Or.inl rfl) ⟨rfl, hT, hX⟩
  · refine r_tableIn (pc := 38) 315 (by decide) (by decide) rfl (by decide) dL_act_38 ?_
    refine r_aload0 (pc := 315) dL_act_315 ?_
    refine n_bipush (pc := 316) 13 (by decide) dL_act_316 ?_
    refine n_iconst_0 (pc := 318) dL_act_318 ?_
    refine n_iconst_0 (pc := 319) dL_act_319 ?_
    refine n_iconst_0 (pc := 320) dL_act_320 ?_
    refine r_call5 (pc := 321) rfl rfl dL_act_321 (s_do b hT hO (by decide) pair_eta) (by decide) (Nat.le_of_ble_eq_true rfl) ⟨by decide, by decide⟩ (fun M9 h9 => ?_)
    obtain ⟨hT, hY⟩ := h9
    have hX : ∀ i, 328 ≤ i → M9 i = M i := fun i hi => (hY i hi).trans (hX i hi)
    clear hY
    exact p_ireturn (pc := 324) false rfl rfl rfl dL_act_324 (by decide) (by decide) (Or.inl rfl) ⟨rfl, hT, hX⟩
  · refine r_tableOut (pc := 38) 325 (by decide) (by decide) dL_act_38 ?_
    refine r_aload0 (pc := 325) dL_act_325 ?_
    refine n_bipush (pc := 326) 12 (by decide) dL_act_326 ?_
    refine n_iconst_1 (pc := 328) dL_act_328 ?_
    refine r_iload2 (pc := 329) dL_act_329 ?_
    refine n_iconst_2 (pc := 330) dL_act_330 ?_
    refine n_irem (pc := 331) dL_act_331 (by omega) (by omega) (by omega) ?_
    first | refine n_iadd (pc := 332) dL_act_332 ?_ | refine z_iadd (pc := 332) dL_act_332 ?_ | refine r_iadd (pc := 332) dL_act_332 ?_
    refine n_iconst_0 (pc := 333) dL_act_333 ?_
    refine n_iconst_0 (pc := 334) dL_act_334 ?_
    refine r_call5 (pc := 335) rfl rfl dL_act_335 (s_do b hT hO (by decide) pair_eta) (by decide) (Nat.le_of_ble_eq_true rfl) ⟨by decide, by decide⟩ (fun M9 h9 => ?_)
    obtain ⟨hT, hY⟩ := h9
    have hX : ∀ i, 328 ≤ i → M9 i = M i := fun i hi => (hY i hi).trans (hX i hi)
    clear hY
    exact p_ireturn (pc := 338) false rfl rfl rfl dL_act_338 (by decide) (by decide) (Or.inl rfl) ⟨rfl, hT, hX⟩
/-! two portraits that answer alike -/
theorem s_simK (b : Bool) {M : Mem} {W : Bool → WS} (hT : TW M W) (hO : WOK (W b)) (s : Int64) (x : Int32) : SpecW mL_doSimulate [(0, 6, 7, 20)] 9 1 6 [.ref (rb b), .long s, .int x] M (tK M W (vA [cAR] (A_simulate s x (W b)))) := by
  have h1 := s_doSimulate b hT hO s x
  rw [keep_simulate, tQ_K] at h1
  exact h1
theorem W2_f (w1 w2 : WS) : W2 w1 w2 false = w1 := rfl
theorem W2_t (w1 w2 : WS) : W2 w1 w2 true = w2 := rfl
section ALIKE
variable {M : Mem} {w : WS}
theorem a_ask0 (hT : TW M (W2 w w)) (hO : WOK w) {k : Nat} (hk : k ≤ 20) {a b c v : Int32} (h : cA k a b c w = (v, w)) : SpecP mL_call 10 1 6 [.ref 0, .int (nI k), .int a, .int b, .int c] M (tK M (W2 w w) v) := s_ask false hT hO hk h
theorem a_ask1 (hT : TW M (W2 w w)) (hO : WOK w) {k : Nat} (hk : k ≤ 20) {a b c v : Int32} (h : cA k a b c w = (v, w)) : SpecP mL_call 10 1 6 [.ref 164, .int (nI k), .int a, .int b, .int c] M (tK M (W2 w w) v) := s_ask true hT hO hk h
theorem a_sim0 (hT : TW M (W2 w w)) (hO : WOK w) (s : Int64) (x : Int32) : SpecW mL_doSimulate [(0, 6, 7, 20)] 9 1 6 [.ref 0, .long s, .int x] M (tK M (W2 w w) (vA [cAR] (A_simulate s x w))) := s_simK false hT hO s x
theorem a_sim1 (hT : TW M (W2 w w)) (hO : WOK w) (s : Int64) (x : Int32) : SpecW mL_doSimulate [(0, 6, 7, 20)] 9 1 6 [.ref 164, .long s, .int x] M (tK M (W2 w w) (vA [cAR] (A_simulate s x w))) := s_simK true hT hO s x
theorem a_least0 (hT : TW M (W2 w w)) (hO : WOK w) : SpecP mX7_least 8 0 0 [.ref 0] M (tK M (W2 w w) (iI (leastZ (wz w)))) := s_least2 false hT hO
theorem a_least1 (hT : TW M (W2 w w)) (hO : WOK w) : SpecP mX7_least 8 0 0 [.ref 164] M (tK M (W2 w w) (iI (leastZ (wz w)))) := s_least2 true hT hO
set_option maxRecDepth 20000 in
theorem s_alike (hT : TW M (W2 w w)) (hO : WOK w) {X : Nat} (hX0 : X < 5000) : SpecP mL_alike 11 120 720 [.ref 0, .ref 164, .int (nI X)] M (tK M (W2 w w) (nI 1)) := by
  have hX : ∀ i, 328 ≤ i → M i = M i := fun _ _ => rfl
  refine Spec_of [some (.ref 0), some (.ref 164), some (.int (nI X)), none, none] (by decide) (Nat.le_of_ble_eq_true rfl) rfl ?_
  refine r_aload0 (pc := 0) dL_alike_0 ?_
  refine r_iload2 (pc := 1) dL_alike_1 ?_
  refine r_i2l (pc := 2) dL_alike_2 ?_
  refine n_iconst_1 (pc := 3) dL_alike_3 ?_
  refine r_iload2 (pc := 4) dL_alike_4 ?_
  refine n_iconst_3 (pc := 5) dL_alike_5 ?_
  refine n_irem (pc := 6) dL_alike_6 (by omega) (by omega) (by omega) ?_
  first | refine n_iadd (pc := 7) dL_alike_7 ?_ | refine z_iadd (pc := 7) dL_alike_7 ?_ | refine r_iadd (pc := 7) dL_alike_7 ?_
  refine r_callW3 (pc := 8) lkw_182 rfl dL_alike_8 (a_sim0 hT hO _ _) (by decide) (Nat.le_of_ble_eq_true rfl) ⟨by decide, by decide⟩ (fun M9 h9 => ?_)
  obtain ⟨hT, hY⟩ := h9
  have hX : ∀ i, 328 ≤ i → M9 i = M i := fun i hi => (hY i hi).trans (hX i hi)
  clear hY
  refine r_aload1 (pc := 11) dL_alike_11 ?_
  refine r_iload2 (pc := 12) dL_alike_12 ?_
  refine r_i2l (pc := 13) dL_alike_13 ?_
  refine n_iconst_1 (pc := 14) dL_alike_14 ?_
  refine r_iload2 (pc := 15) dL_alike_15 ?_
  refine n_iconst_3 (pc := 16) dL_alike_16 ?_
  refine n_irem (pc := 17) dL_alike_17 (by omega) (by omega) (by omega) ?_
  first | refine n_iadd (pc := 18) dL_alike_18 ?_ | refine z_iadd (pc := 18) dL_alike_18 ?_ | refine r_iadd (pc := 18) dL_alike_18 ?_
  refine r_callW3 (pc := 19) lkw_182 rfl dL_alike_19 (a_sim1 hT hO _ _) (by decide) (Nat.le_of_ble_eq_true rfl) ⟨by decide, by decide⟩ (fun M9 h9 => ?_)
  obtain ⟨hT, hY⟩ := h9
  have hX : ∀ i, 328 ≤ i → M9 i = M i := fun i hi => (hY i hi).trans (hX i hi)
  clear hY
  refine r_icmp_ne (pc := 22) 61 (by decide) dL_alike_22 (fun h9 => absurd rfl h9) (fun _ => ?_)
  refine r_aload0 (pc := 25) dL_alike_25 ?_
  refine r_callV0x (pc := 26) lk_L_186 dL_alike_26 (hT.obj false) (a_least0 hT hO)  (by decide) (Nat.le_of_ble_eq_true rfl) ⟨by decide, by decide⟩ (fun M9 h9 => ?_)
  obtain ⟨hT, hY⟩ := h9
  have hX : ∀ i, 328 ≤ i → M9 i = M i := fun i hi => (hY i hi).trans (hX i hi)
  clear hY
  refine r_aload1 (pc := 29) dL_alike_29 ?_
  refine r_callV0x (pc := 30) lk_L_186 dL_alike_30 (hT.obj true) (a_least1 hT hO)  (by decide) (Nat.le_of_ble_eq_true rfl) ⟨by decide, by decide⟩ (fun M9 h9 => ?_)
  obtain ⟨hT, hY⟩ := h9
  have hX : ∀ i, 328 ≤ i → M9 i = M i := fun i hi => (hY i hi).trans (hX i hi)
  clear hY
  refine r_icmp_ne (pc := 33) 61 (by decide) dL_alike_33 (fun h9 => absurd rfl h9) (fun _ => ?_)
  refine r_aload0 (pc := 36) dL_alike_36 ?_
  refine n_bipush (pc := 37) 15 (by decide) dL_alike_37 ?_
  refine n_iconst_0 (pc := 39) dL_alike_39 ?_
  refine n_iconst_0 (pc := 40) dL_alike_40 ?_
  refine n_iconst_0 (pc := 41) dL_alike_41 ?_
  refine r_call5 (pc := 42) rfl rfl dL_alike_42 (a_ask0 hT hO (by decide) qk_best) (by decide) (Nat.le_of_ble_eq_true rfl) ⟨by decide, by decide⟩ (fun M9 h9 => ?_)
  obtain ⟨hT, hY⟩ := h9
  have hX : ∀ i, 328 ≤ i → M9 i = M i := fun i hi => (hY i hi).trans (hX i hi)
  clear hY
  refine r_aload1 (pc := 45) dL_alike_45 ?_
  refine n_bipush (pc := 46) 15 (by decide) dL_alike_46 ?_
  refine n_iconst_0 (pc := 48) dL_alike_48 ?_
  refine n_iconst_0 (pc := 49) dL_alike_49 ?_
  refine n_iconst_0 (pc := 50) dL_alike_50 ?_
  refine r_call5 (pc := 51) rfl rfl dL_alike_51 (a_ask1 hT hO (by decide) qk_best) (by decide) (Nat.le_of_ble_eq_true rfl) ⟨by decide, by decide⟩ (fun M9 h9 => ?_)
  obtain ⟨hT, hY⟩ := h9
  have hX : ∀ i, 328 ≤ i → M9 i = M i := fun i hi => (hY i hi).trans (hX i hi)
  clear hY
  refine r_icmp_ne (pc := 54) 61 (by decide) dL_alike_54 (fun h9 => absurd rfl h9) (fun _ => ?_)
  refine n_iconst_1 (pc := 57) dL_alike_57 ?_
  refine r_goto (pc := 58) 62 (by decide) dL_alike_58 ?_
  refine r_istore3 (pc := 62) dL_alike_62 rfl ?_
  refine n_iconst_0 (pc := 63) dL_alike_63 ?_
  refine r_istore4 (pc := 64) dL_alike_64 rfl ?_
  refine up_to (N := 11) (k := 0) (fun k => ∀ M9 : Mem, TW M9 (W2 w w) → (∀ i, 328 ≤ i → M9 i = M i) → G mL_alike 11 (.inl false) 120 720 (tK M (W2 w w) (nI 1)) none (4 + 10 * k) (24 + 60 * k) 66 [some (.ref 0), some (.ref 164), some (.int (nI X)), some (.int (nI 1)), some (.int (nI k))] [] M9) (fun M9 hT hX => ?_) (fun k hk ih M9 hT hX => ?_) (Nat.zero_le _) _ hT hX
  · skip
    refine r_iload4 (pc := 66) dL_alike_66 ?_
    refine n_bipush (pc := 68) 11 (by decide) dL_alike_68 ?_
    refine n_icmp_ge (pc := 70) 222 (by decide) dL_alike_70 (by omega) (by omega) (fun hc70 => ?_) (fun hc70 => absurd hc70 (by omega))
    refine r_iload3 (pc := 222) dL_alike_222 ?_
    exact p_ireturn (pc := 223) false rfl rfl (by decide) dL_alike_223 (by decide) (by decide) (Or.inl rfl) ⟨rfl, hT, hX⟩
  · skip
    refine r_iload4 (pc := 66) dL_alike_66 ?_
    refine n_bipush (pc := 68) 11 (by decide) dL_alike_68 ?_
    refine n_icmp_ge (pc := 70) 222 (by decide) dL_alike_70 (by omega) (by omega) (fun hc70 => absurd hc70 (by omega)) (fun hc70 => ?_)
    refine r_iload3 (pc := 73) dL_alike_73 ?_
    refine n_if_eq (pc := 74) 222 (by decide) dL_alike_74 (by omega) (fun hc74 => absurd hc74 (by omega)) (fun hc74 => ?_)
    refine r_aload0 (pc := 77) dL_alike_77 ?_
    refine n_iconst_2 (pc := 78) dL_alike_78 ?_
    refine r_iload4 (pc := 79) dL_alike_79 ?_
    refine n_iconst_0 (pc := 81) dL_alike_81 ?_
    refine n_iconst_0 (pc := 82) dL_alike_82 ?_
    refine r_call5 (pc := 83) rfl rfl dL_alike_83 (a_ask0 hT hO (by decide) qk_ab) (by decide) (Nat.le_of_ble_eq_true rfl) ⟨by omega, by omega⟩ (fun M9 h9 => ?_)
    obtain ⟨hT, hY⟩ := h9
    have hX : ∀ i, 328 ≤ i → M9 i = M i := fun i hi => (hY i hi).trans (hX i hi)
    clear hY
    refine r_aload1 (pc := 86) dL_alike_86 ?_
    refine n_iconst_2 (pc := 87) dL_alike_87 ?_
    refine r_iload4 (pc := 88) dL_alike_88 ?_
    refine n_iconst_0 (pc := 90) dL_alike_90 ?_
    refine n_iconst_0 (pc := 91) dL_alike_91 ?_
    refine r_call5 (pc := 92) rfl rfl dL_alike_92 (a_ask1 hT hO (by decide) qk_ab) (by decide) (Nat.le_of_ble_eq_true rfl) ⟨by omega, by omega⟩ (fun M9 h9 => ?_)
    obtain ⟨hT, hY⟩ := h9
    have hX : ∀ i, 328 ≤ i → M9 i = M i := fun i hi => (hY i hi).trans (hX i hi)
    clear hY
    refine r_icmp_ne (pc := 95) 214 (by decide) dL_alike_95 (fun h9 => absurd rfl h9) (fun _ => ?_)
    refine r_aload0 (pc := 98) dL_alike_98 ?_
    refine n_iconst_3 (pc := 99) dL_alike_99 ?_
    refine r_iload4 (pc := 100) dL_alike_100 ?_
    refine n_iconst_4 (pc := 102) dL_alike_102 ?_
    refine n_irem (pc := 103) dL_alike_103 (by omega) (by omega) (by omega) ?_
    refine r_iload2 (pc := 104) dL_alike_104 ?_
    refine n_iconst_3 (pc := 105) dL_alike_105 ?_
    refine n_irem (pc := 106) dL_alike_106 (by omega) (by omega) (by omega) ?_
    refine r_iload2 (pc := 107) dL_alike_107 ?_
    refine n_iconst_5 (pc := 108) dL_alike_108 ?_
    refine n_irem (pc := 109) dL_alike_109 (by omega) (by omega) (by omega) ?_
    refine r_call5 (pc := 110) rfl rfl dL_alike_110 (a_ask0 hT hO (by decide) qk_sq) (by decide) (Nat.le_of_ble_eq_true rfl) ⟨by omega, by omega⟩ (fun M9 h9 => ?_)
    obtain ⟨hT, hY⟩ := h9
    have hX : ∀ i, 328 ≤ i → M9 i = M i := fun i hi => (hY i hi).trans (hX i hi)
    clear hY
    refine r_aload1 (pc := 113) dL_alike_113 ?_
    refine n_iconst_3 (pc := 114) dL_alike_114 ?_
    refine r_iload4 (pc := 115) dL_alike_115 ?_
    refine n_iconst_4 (pc := 117) dL_alike_117 ?_
    refine n_irem (pc := 118) dL_alike_118 (by omega) (by omega) (by omega) ?_
    refine r_iload2 (pc := 119) dL_alike_119 ?_
    refine n_iconst_3 (pc := 120) dL_alike_120 ?_
    refine n_irem (pc := 121) dL_alike_121 (by omega) (by omega) (by omega) ?_
    refine r_iload2 (pc := 122) dL_alike_122 ?_
    refine n_iconst_5 (pc := 123) dL_alike_123 ?_
    refine n_irem (pc := 124) dL_alike_124 (by omega) (by omega) (by omega) ?_
    refine r_call5 (pc := 125) rfl rfl dL_alike_125 (a_ask1 hT hO (by decide) qk_sq) (by decide) (Nat.le_of_ble_eq_true rfl) ⟨by omega, by omega⟩ (fun M9 h9 => ?_)
    obtain ⟨hT, hY⟩ := h9
    have hX : ∀ i, 328 ≤ i → M9 i = M i := fun i hi => (hY i hi).trans (hX i hi)
    clear hY
    refine r_icmp_ne (pc := 128) 214 (by decide) dL_alike_128 (fun h9 => absurd rfl h9) (fun _ => ?_)
    refine r_aload0 (pc := 131) dL_alike_131 ?_
    refine n_iconst_4 (pc := 132) dL_alike_132 ?_
    refine n_iconst_3 (pc := 133) dL_alike_133 ?_
    refine r_iload4 (pc := 134) dL_alike_134 ?_
    first | refine n_imul (pc := 136) dL_alike_136 ?_ | refine z_imul (pc := 136) dL_alike_136 ?_ | refine r_imul (pc := 136) dL_alike_136 ?_
    refine r_iload2 (pc := 137) dL_alike_137 ?_
    refine n_bipush (pc := 138) 7 (by decide) dL_alike_138 ?_
    refine n_irem (pc := 140) dL_alike_140 (by omega) (by omega) (by omega) ?_
    refine n_iconst_0 (pc := 141) dL_alike_141 ?_
    refine r_call5 (pc := 142) rfl rfl dL_alike_142 (a_ask0 hT hO (by decide) qk_pl) (by decide) (Nat.le_of_ble_eq_true rfl) ⟨by omega, by omega⟩ (fun M9 h9 => ?_)
    obtain ⟨hT, hY⟩ := h9
    have hX : ∀ i, 328 ≤ i → M9 i = M i := fun i hi => (hY i hi).trans (hX i hi)
    clear hY
    refine r_aload1 (pc := 145) dL_alike_145 ?_
    refine n_iconst_4 (pc := 146) dL_alike_146 ?_
    refine n_iconst_3 (pc := 147) dL_alike_147 ?_
    refine r_iload4 (pc := 148) dL_alike_148 ?_
    first | refine n_imul (pc := 150) dL_alike_150 ?_ | refine z_imul (pc := 150) dL_alike_150 ?_ | refine r_imul (pc := 150) dL_alike_150 ?_
    refine r_iload2 (pc := 151) dL_alike_151 ?_
    refine n_bipush (pc := 152) 7 (by decide) dL_alike_152 ?_
    refine n_irem (pc := 154) dL_alike_154 (by omega) (by omega) (by omega) ?_
    refine n_iconst_0 (pc := 155) dL_alike_155 ?_
    refine r_call5 (pc := 156) rfl rfl dL_alike_156 (a_ask1 hT hO (by decide) qk_pl) (by decide) (Nat.le_of_ble_eq_true rfl) ⟨by omega, by omega⟩ (fun M9 h9 => ?_)
    obtain ⟨hT, hY⟩ := h9
    have hX : ∀ i, 328 ≤ i → M9 i = M i := fun i hi => (hY i hi).trans (hX i hi)
    clear hY
    refine r_icmp_ne (pc := 159) 214 (by decide) dL_alike_159 (fun h9 => absurd rfl h9) (fun _ => ?_)
    refine r_aload0 (pc := 162) dL_alike_162 ?_
    refine n_iconst_5 (pc := 163) dL_alike_163 ?_
    refine n_iconst_2 (pc := 164) dL_alike_164 ?_
    refine r_iload4 (pc := 165) dL_alike_165 ?_
    first | refine n_imul (pc := 167) dL_alike_167 ?_ | refine z_imul (pc := 167) dL_alike_167 ?_ | refine r_imul (pc := 167) dL_alike_167 ?_
    refine n_iconst_2 (pc := 168) dL_alike_168 ?_
    refine n_iconst_0 (pc := 169) dL_alike_169 ?_
    refine r_call5 (pc := 170) rfl rfl dL_alike_170 (a_ask0 hT hO (by decide) qk_ti) (by decide) (Nat.le_of_ble_eq_true rfl) ⟨by omega, by omega⟩ (fun M9 h9 => ?_)
    obtain ⟨hT, hY⟩ := h9
    have hX : ∀ i, 328 ≤ i → M9 i = M i := fun i hi => (hY i hi).trans (hX i hi)
    clear hY
    refine r_aload1 (pc := 173) dL_alike_173 ?_
    refine n_iconst_5 (pc := 174) dL_alike_174 ?_
    refine n_iconst_2 (pc := 175) dL_alike_175 ?_
    refine r_iload4 (pc := 176) dL_alike_176 ?_
    first | refine n_imul (pc := 178) dL_alike_178 ?_ | refine z_imul (pc := 178) dL_alike_178 ?_ | refine r_imul (pc := 178) dL_alike_178 ?_
    refine n_iconst_2 (pc := 179) dL_alike_179 ?_
    refine n_iconst_0 (pc := 180) dL_alike_180 ?_
    refine r_call5 (pc := 181) rfl rfl dL_alike_181 (a_ask1 hT hO (by decide) qk_ti) (by decide) (Nat.le_of_ble_eq_true rfl) ⟨by omega, by omega⟩ (fun M9 h9 => ?_)
    obtain ⟨hT, hY⟩ := h9
    have hX : ∀ i, 328 ≤ i → M9 i = M i := fun i hi => (hY i hi).trans (hX i hi)
    clear hY
    refine r_icmp_ne (pc := 184) 214 (by decide) dL_alike_184 (fun h9 => absurd rfl h9) (fun _ => ?_)
    refine r_aload0 (pc := 187) dL_alike_187 ?_
    refine n_bipush (pc := 188) 17 (by decide) dL_alike_188 ?_
    refine r_iload4 (pc := 190) dL_alike_190 ?_
    refine n_iconst_0 (pc := 192) dL_alike_192 ?_
    refine n_iconst_0 (pc := 193) dL_alike_193 ?_
    refine r_call5 (pc := 194) rfl rfl dL_alike_194 (a_ask0 hT hO (by decide) qk_worst) (by decide) (Nat.le_of_ble_eq_true rfl) ⟨by omega, by omega⟩ (fun M9 h9 => ?_)
    obtain ⟨hT, hY⟩ := h9
    have hX : ∀ i, 328 ≤ i → M9 i = M i := fun i hi => (hY i hi).trans (hX i hi)
    clear hY
    refine r_aload1 (pc := 197) dL_alike_197 ?_
    refine n_bipush (pc := 198) 17 (by decide) dL_alike_198 ?_
    refine r_iload4 (pc := 200) dL_alike_200 ?_
    refine n_iconst_0 (pc := 202) dL_alike_202 ?_
    refine n_iconst_0 (pc := 203) dL_alike_203 ?_
    refine r_call5 (pc := 204) rfl rfl dL_alike_204 (a_ask1 hT hO (by decide) qk_worst) (by decide) (Nat.le_of_ble_eq_true rfl) ⟨by omega, by omega⟩ (fun M9 h9 => ?_)
    obtain ⟨hT, hY⟩ := h9
    have hX : ∀ i, 328 ≤ i → M9 i = M i := fun i hi => (hY i hi).trans (hX i hi)
    clear hY
    refine r_icmp_ne (pc := 207) 214 (by decide) dL_alike_207 (fun h9 => absurd rfl h9) (fun _ => ?_)
    refine n_iconst_1 (pc := 210) dL_alike_210 ?_
    refine r_goto (pc := 211) 215 (by decide) dL_alike_211 ?_
    refine r_istore3 (pc := 215) dL_alike_215 rfl ?_
    refine n_iinc4 (pc := 216) dL_alike_216 rfl ?_
    refine r_goto (pc := 219) 66 (by decide) dL_alike_219 ?_
    refine G_widen rfl (show _ ≤ 4 + 10 * (k + 1) by omega) (show _ ≤ 24 + 60 * (k + 1) by omega) ?_
    exact ih _ hT hX
end ALIKE
