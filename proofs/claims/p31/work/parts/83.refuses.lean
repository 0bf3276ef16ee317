/-! the law's calls that are refused -/
theorem s_thr0 {M : Mem} {v : Int32} (h1 : v ≠ cIX) (h2 : v ≠ cAR) (h3 : v ≠ cST) : Spec mL_thrown 1 0 0 [.int v] M (some (.int (nI 0))) M := by
  refine Spec_of [some (.int v)] (by decide) (Nat.le_of_ble_eq_true rfl) rfl ?_
  refine r_iload0 (pc := 0) dL_thrown_0 ?_
  refine r_ldc (v := -9999001) (pc := 1) (tG 734 (by decide +kernel) (by decide +kernel)) dL_thrown_1 ?_
  refine r_icmp_eq (pc := 3) 18 (by decide) dL_thrown_3 (fun h9 => absurd h9 h1) (fun _ => ?_)
  refine r_iload0 (pc := 6) dL_thrown_6 ?_
  refine r_ldc (v := -9999002) (pc := 7) (tG 410 (by decide +kernel) (by decide +kernel)) dL_thrown_7 ?_
  refine r_icmp_eq (pc := 9) 18 (by decide) dL_thrown_9 (fun h9 => absurd h9 h2) (fun _ => ?_)
  refine r_iload0 (pc := 12) dL_thrown_12 ?_
  refine r_ldc (v := -9999003) (pc := 13) (tG 411 (by decide +kernel) (by decide +kernel)) dL_thrown_13 ?_
  refine r_icmp_ne (pc := 15) 22 (by decide) dL_thrown_15 (fun _ => ?_) (fun h9 => absurd h9 h3)
  refine n_iconst_0 (pc := 22) dL_thrown_22 ?_
  exact r_ireturn (pc := 23) false rfl rfl (by decide) dL_thrown_23 (Nat.zero_le _) (Nat.zero_le _) (Or.inl rfl) rfl rfl rfl
theorem pos_noT {z : ZS} {n : Nat} (h1 : zt z ≤ n) (h2 : n < 10000) : posZ z n = false := by
  unfold posZ
  rw [if_pos h2]
  exact decide_eq_false (by omega)
theorem pos_noS {z : ZS} {i : Nat} (h : i < 90) : posZ z (10000 + 101 * i) = false := by
  have e : (10000 + 101 * i) % 10000 = 101 * i := by omega
  unfold posZ
  rw [if_neg (by omega), if_pos (by omega), e, show 101 * i / 100 = i by omega, show 101 * i % 100 = i by omega, decide_eq_false (by omega)]; rfl
theorem s_holdsX (b : Bool) {M : Mem} {W : Bool → WS} (hT : TW M W) (hO : WOK (W b)) {x : Int32} (h : inR x (zt (wz (W b))) = false) : SpecW mL_holds [(0, 6, 7, 13)] 9 1 6 [.ref (rb b), .int x, .int (nI 1)] M (tK M W cIX) := by
  have h1 := s_holds b hT hO x true
  obtain ⟨e1, e2⟩ := x_hold h true
  rw [e1, e2, tQ_K] at h1
  exact h1
theorem s_scriptX (b : Bool) {M : Mem} {W : Bool → WS} (hT : TW M W) (hO : WOK (W b)) {x : Int32} {s : Int64} (h : (inB x 1 3 && inS (nm x) s) = false) : SpecW mL_doScript [(0, 6, 7, 20)] 9 1 6 [.ref (rb b), .int x, .long s] M (tK M W cAR) := by
  have h1 := s_doScript b hT hO x s
  obtain ⟨e1, e2⟩ := x_script (w := W b) h
  rw [e1, e2, tQ_K] at h1
  exact h1
theorem s_simX (b : Bool) {M : Mem} {W : Bool → WS} (hT : TW M W) (hO : WOK (W b)) {x : Int32} {s : Int64} (h : inB x 1 30 = false) : SpecW mL_doSimulate [(0, 6, 7, 20)] 9 1 6 [.ref (rb b), .long s, .int x] M (tK M W cAR) := by
  have h1 := s_doSimulate b hT hO s x
  obtain ⟨e1, e2⟩ := x_simulate (w := W b) (s := s) h
  rw [e1, e2, tQ_K] at h1
  exact h1
theorem nI_lI {X : Nat} (h : X < 2147483648) : (nI X).toInt64 = lI X := by
  apply Int64.toInt_inj.mp
  rw [lI_toInt (by omega), Int32.toInt_toInt64, nI_toInt h]
theorem scr_no {X : Nat} (h : X < 2147483648) : (inB (nI 1) 1 3 && inS (nm (nI 1)) (1000000 + (nI X).toInt64)) = false := by
  have e : inS (nm (nI 1)) (1000000 + (nI X).toInt64) = false := by
    rw [nm_nI (by decide), nI_lI h, show (1000000 : Int64) = lI 1000000 from by decide]
    unfold inS
    have e2 : lI 1000000 + lI X = lI (1000000 + X) := by
      show Int64.ofNat 1000000 + Int64.ofNat X = Int64.ofNat (1000000 + X)
      rw [Int64.ofNat_add]
    rw [e2, lI_toInt (by omega)]
    exact decide_eq_false (by show ¬ ((0 : Int) ≤ ((1000000 + X : Nat) : Int) ∧ ((1000000 + X : Nat) : Int) < ((1000000 ^ 1 : Nat) : Int)); omega)
  rw [e, Bool.and_false]
set_option maxRecDepth 20000 in
theorem s_refuses_even (b : Bool) {M : Mem} {W : Bool → WS} (hT : TW M W) (hO : WOK (W b)) {X : Nat} (hX0 : X < 100000) (hp : X % 2 = 0) : SpecP mL_refuses 11 60 360 [.ref (rb b), .int (nI X)] M (tK M W (nI 1)) := by
  have hZ := hO.z
  have hd := hZ.dims
  have hX : ∀ i, 328 ≤ i → M i = M i := fun _ _ => rfl
  have hmt : X % zt (wz (W b)) < zt (wz (W b)) := Nat.mod_lt _ (by omega)
  have hmc : X % zc (wz (W b)) < zc (wz (W b)) := Nat.mod_lt _ (by omega)
  have hmr : X % zr (wz (W b)) < zr (wz (W b)) := Nat.mod_lt _ (by omega)
  have hcol : (X % zr (wz (W b)) * zc (wz (W b)) + (zc (wz (W b)) - 1)) % zc (wz (W b)) = zc (wz (W b)) - 1 := by
    rw [Nat.mul_comm, Nat.mul_add_mod]
    exact Nat.mod_eq_of_lt (by omega)
  have hrow : (zr (wz (W b)) - 1) * zc (wz (W b)) + zc (wz (W b)) = zq (wz (W b)) := by
    rw [← Nat.succ_mul, Nat.succ_eq_add_one, Nat.sub_add_cancel (by omega), Nat.mul_comm]; rfl
  refine Spec_of [some (.ref (rb b)), some (.int (nI X)), none, none, none, none, none, none, none] (by decide) (Nat.le_of_ble_eq_true rfl) rfl ?_
  refine r_aload0 (pc := 0) dL_refuses_0 ?_
  refine n_iconst_2 (pc := 1) dL_refuses_1 ?_
  refine n_iconst_4 (pc := 2) dL_refuses_2 ?_
  refine n_iconst_0 (pc := 3) dL_refuses_3 ?_
  refine n_iconst_0 (pc := 4) dL_refuses_4 ?_
  refine r_call5 (pc := 5) rfl rfl dL_refuses_5 (s_ask b hT hO (by decide) q_ab4) (by decide) (Nat.le_of_ble_eq_true rfl) ⟨by decide, by decide⟩ (fun M9 h9 => ?_)
  obtain ⟨hT, hY⟩ := h9
  have hX : ∀ i, 328 ≤ i → M9 i = M i := fun i hi => (hY i hi).trans (hX i hi)
  clear hY
  refine r_istore2 (pc := 8) dL_refuses_8 rfl ?_
  refine r_aload0 (pc := 9) dL_refuses_9 ?_
  refine n_iconst_2 (pc := 10) dL_refuses_10 ?_
  refine n_iconst_2 (pc := 11) dL_refuses_11 ?_
  refine n_iconst_0 (pc := 12) dL_refuses_12 ?_
  refine n_iconst_0 (pc := 13) dL_refuses_13 ?_
  refine r_call5 (pc := 14) rfl rfl dL_refuses_14 (s_ask b hT hO (by decide) q_ab2) (by decide) (Nat.le_of_ble_eq_true rfl) ⟨by decide, by decide⟩ (fun M9 h9 => ?_)
  obtain ⟨hT, hY⟩ := h9
  have hX : ∀ i, 328 ≤ i → M9 i = M i := fun i hi => (hY i hi).trans (hX i hi)
  clear hY
  refine r_istore3 (pc := 17) dL_refuses_17 rfl ?_
  refine r_aload0 (pc := 18) dL_refuses_18 ?_
  refine n_iconst_2 (pc := 19) dL_refuses_19 ?_
  refine n_iconst_3 (pc := 20) dL_refuses_20 ?_
  refine n_iconst_0 (pc := 21) dL_refuses_21 ?_
  refine n_iconst_0 (pc := 22) dL_refuses_22 ?_
  refine r_call5 (pc := 23) rfl rfl dL_refuses_23 (s_ask b hT hO (by decide) q_ab3) (by decide) (Nat.le_of_ble_eq_true rfl) ⟨by decide, by decide⟩ (fun M9 h9 => ?_)
  obtain ⟨hT, hY⟩ := h9
  have hX : ∀ i, 328 ≤ i → M9 i = M i := fun i hi => (hY i hi).trans (hX i hi)
  clear hY
  refine r_istore4 (pc := 26) dL_refuses_26 rfl ?_
  refine r_iload1 (pc := 28) dL_refuses_28 ?_
  refine n_iconst_2 (pc := 29) dL_refuses_29 ?_
  refine n_irem (pc := 30) dL_refuses_30 (by omega) (by omega) (by omega) ?_
  refine n_if_ne (pc := 31) 43 (by decide) dL_refuses_31 (by omega) (fun hc31 => absurd hc31 (by omega)) (fun hc31 => ?_)
  refine r_iconst_m1 (pc := 34) dL_refuses_34 ?_
  refine r_iload1 (pc := 35) dL_refuses_35 ?_
  refine n_bipush (pc := 36) 99 (by decide) dL_refuses_36 ?_
  refine n_irem (pc := 38) dL_refuses_38 (by omega) (by omega) (by omega) ?_
  refine r_isub (pc := 39) dL_refuses_39 ?_
  refine r_goto (pc := 40) 49 (by decide) dL_refuses_40 ?_
  refine r_istore5 (pc := 49) dL_refuses_49 rfl ?_
  refine r_iload1 (pc := 51) dL_refuses_51 ?_
  refine n_iconst_2 (pc := 52) dL_refuses_52 ?_
  refine n_irem (pc := 53) dL_refuses_53 (by omega) (by omega) (by omega) ?_
  refine n_if_ne (pc := 54) 66 (by decide) dL_refuses_54 (by omega) (fun hc54 => absurd hc54 (by omega)) (fun hc54 => ?_)
  refine r_iconst_m1 (pc := 57) dL_refuses_57 ?_
  refine r_iload1 (pc := 58) dL_refuses_58 ?_
  refine n_bipush (pc := 59) 99 (by decide) dL_refuses_59 ?_
  refine n_irem (pc := 61) dL_refuses_61 (by omega) (by omega) (by omega) ?_
  refine r_isub (pc := 62) dL_refuses_62 ?_
  refine r_goto (pc := 63) 72 (by decide) dL_refuses_63 ?_
  refine r_istore6 (pc := 72) dL_refuses_72 rfl ?_
  refine r_iload1 (pc := 74) dL_refuses_74 ?_
  refine n_iconst_2 (pc := 75) dL_refuses_75 ?_
  refine n_irem (pc := 76) dL_refuses_76 (by omega) (by omega) (by omega) ?_
  refine n_if_ne (pc := 77) 89 (by decide) dL_refuses_77 (by omega) (fun hc77 => absurd hc77 (by omega)) (fun hc77 => ?_)
  refine r_iconst_m1 (pc := 80) dL_refuses_80 ?_
  refine r_iload1 (pc := 81) dL_refuses_81 ?_
  refine n_bipush (pc := 82) 99 (by decide) dL_refuses_82 ?_
  refine n_irem (pc := 84) dL_refuses_84 (by omega) (by omega) (by omega) ?_
  refine r_isub (pc := 85) dL_refuses_85 ?_
  refine r_goto (pc := 86) 96 (by decide) dL_refuses_86 ?_
  refine r_istore7 (pc := 96) dL_refuses_96 rfl ?_
  refine r_iload1 (pc := 98) dL_refuses_98 ?_
  refine n_iconst_2 (pc := 99) dL_refuses_99 ?_
  refine n_irem (pc := 100) dL_refuses_100 (by omega) (by omega) (by omega) ?_
  refine n_if_ne (pc := 101) 113 (by decide) dL_refuses_101 (by omega) (fun hc101 => absurd hc101 (by omega)) (fun hc101 => ?_)
  refine r_iconst_m1 (pc := 104) dL_refuses_104 ?_
  refine r_iload1 (pc := 105) dL_refuses_105 ?_
  refine n_bipush (pc := 106) 99 (by decide) dL_refuses_106 ?_
  refine n_irem (pc := 108) dL_refuses_108 (by omega) (by omega) (by omega) ?_
  refine r_isub (pc := 109) dL_refuses_109 ?_
  refine r_goto (pc := 110) 120 (by decide) dL_refuses_110 ?_
  refine r_istore8 (pc := 120) dL_refuses_120 rfl ?_
  refine r_aload0 (pc := 122) dL_refuses_122 ?_
  refine n_iconst_0 (pc := 123) dL_refuses_123 ?_
  refine r_iload1 (pc := 124) dL_refuses_124 ?_
  refine n_iconst_2 (pc := 125) dL_refuses_125 ?_
  refine n_irem (pc := 126) dL_refuses_126 (by omega) (by omega) (by omega) ?_
  refine n_if_ne (pc := 127) 139 (by decide) dL_refuses_127 (by omega) (fun hc127 => absurd hc127 (by omega)) (fun hc127 => ?_)
  refine r_iconst_m1 (pc := 130) dL_refuses_130 ?_
  refine r_iload1 (pc := 131) dL_refuses_131 ?_
  refine n_bipush (pc := 132) 9 (by decide) dL_refuses_132 ?_
  refine n_irem (pc := 134) dL_refuses_134 (by omega) (by omega) (by omega) ?_
  refine r_isub (pc := 135) dL_refuses_135 ?_
  refine r_goto (pc := 136) 147 (by decide) dL_refuses_136 ?_
  refine n_iconst_0 (pc := 147) dL_refuses_147 ?_
  refine n_iconst_0 (pc := 148) dL_refuses_148 ?_
  refine r_call5 (pc := 149) rfl rfl dL_refuses_149 (s_ask b hT hO (by decide) (x_append (inB_ng (by omega)))) (by decide) (Nat.le_of_ble_eq_true rfl) ⟨by decide, by decide⟩ (fun M9 h9 => ?_)
  obtain ⟨hT, hY⟩ := h9
  have hX : ∀ i, 328 ≤ i → M9 i = M i := fun i hi => (hY i hi).trans (hX i hi)
  clear hY
  refine r_ldc (v := -9999002) (pc := 152) (tG 410 (by decide +kernel) (by decide +kernel)) dL_refuses_152 ?_
  refine r_icmp_ne (pc := 154) 879 (by decide) dL_refuses_154 (fun h9 => absurd rfl h9) (fun _ => ?_)
  refine r_aload0 (pc := 157) dL_refuses_157 ?_
  refine n_iconst_2 (pc := 158) dL_refuses_158 ?_
  refine n_bipush (pc := 159) 11 (by decide) dL_refuses_159 ?_
  refine r_iload1 (pc := 161) dL_refuses_161 ?_
  refine n_bipush (pc := 162) 50 (by decide) dL_refuses_162 ?_
  refine n_irem (pc := 164) dL_refuses_164 (by omega) (by omega) (by omega) ?_
  first | refine n_iadd (pc := 165) dL_refuses_165 ?_ | refine z_iadd (pc := 165) dL_refuses_165 ?_ | refine r_iadd (pc := 165) dL_refuses_165 ?_
  refine n_iconst_0 (pc := 166) dL_refuses_166 ?_
  refine n_iconst_0 (pc := 167) dL_refuses_167 ?_
  refine r_call5 (pc := 168) rfl rfl dL_refuses_168 (s_ask b hT hO (by decide) (x_about (inR_big (by omega) (by omega)))) (by decide) (Nat.le_of_ble_eq_true rfl) ⟨by decide, by decide⟩ (fun M9 h9 => ?_)
  obtain ⟨hT, hY⟩ := h9
  have hX : ∀ i, 328 ≤ i → M9 i = M i := fun i hi => (hY i hi).trans (hX i hi)
  clear hY
  refine r_ldc (v := -9999002) (pc := 171) (tG 410 (by decide +kernel) (by decide +kernel)) dL_refuses_171 ?_
  refine r_icmp_ne (pc := 173) 879 (by decide) dL_refuses_173 (fun h9 => absurd rfl h9) (fun _ => ?_)
  refine r_aload0 (pc := 176) dL_refuses_176 ?_
  refine n_iconst_3 (pc := 177) dL_refuses_177 ?_
  refine r_iload6 (pc := 178) dL_refuses_178 ?_
  refine n_iconst_0 (pc := 180) dL_refuses_180 ?_
  refine n_bipush (pc := 181) 9 (by decide) dL_refuses_181 ?_
  refine r_call5 (pc := 183) rfl rfl dL_refuses_183 (s_ask b hT hO (by decide) (x_squareI (inQ_x (inR_ng (by omega))))) (by decide) (Nat.le_of_ble_eq_true rfl) ⟨by decide, by decide⟩ (fun M9 h9 => ?_)
  obtain ⟨hT, hY⟩ := h9
  have hX : ∀ i, 328 ≤ i → M9 i = M i := fun i hi => (hY i hi).trans (hX i hi)
  clear hY
  refine r_ldc (v := -9999001) (pc := 186) (tG 734 (by decide +kernel) (by decide +kernel)) dL_refuses_186 ?_
  refine r_icmp_ne (pc := 188) 879 (by decide) dL_refuses_188 (fun h9 => absurd rfl h9) (fun _ => ?_)
  refine r_aload0 (pc := 191) dL_refuses_191 ?_
  refine n_iconst_3 (pc := 192) dL_refuses_192 ?_
  refine n_iconst_0 (pc := 193) dL_refuses_193 ?_
  refine r_iload7 (pc := 194) dL_refuses_194 ?_
  refine n_bipush (pc := 196) 9 (by decide) dL_refuses_196 ?_
  refine r_call5 (pc := 198) rfl rfl dL_refuses_198 (s_ask b hT hO (by decide) (x_squareI (inQ_y (inR_ng (by omega))))) (by decide) (Nat.le_of_ble_eq_true rfl) ⟨by decide, by decide⟩ (fun M9 h9 => ?_)
  obtain ⟨hT, hY⟩ := h9
  have hX : ∀ i, 328 ≤ i → M9 i = M i := fun i hi => (hY i hi).trans (hX i hi)
  clear hY
  refine r_ldc (v := -9999001) (pc := 201) (tG 734 (by decide +kernel) (by decide +kernel)) dL_refuses_201 ?_
  refine r_icmp_ne (pc := 203) 879 (by decide) dL_refuses_203 (fun h9 => absurd rfl h9) (fun _ => ?_)
  refine r_aload0 (pc := 206) dL_refuses_206 ?_
  refine n_iconst_3 (pc := 207) dL_refuses_207 ?_
  refine r_iload1 (pc := 208) dL_refuses_208 ?_
  refine r_iload3 (pc := 209) dL_refuses_209 ?_
  refine n_irem (pc := 210) dL_refuses_210 (by omega) (by omega) (by omega) ?_
  refine r_iload1 (pc := 211) dL_refuses_211 ?_
  refine r_iload4 (pc := 212) dL_refuses_212 ?_
  refine n_irem (pc := 214) dL_refuses_214 (by omega) (by omega) (by omega) ?_
  refine n_iconst_5 (pc := 215) dL_refuses_215 ?_
  refine r_iload1 (pc := 216) dL_refuses_216 ?_
  refine n_bipush (pc := 217) 9 (by decide) dL_refuses_217 ?_
  refine n_irem (pc := 219) dL_refuses_219 (by omega) (by omega) (by omega) ?_
  first | refine n_iadd (pc := 220) dL_refuses_220 ?_ | refine z_iadd (pc := 220) dL_refuses_220 ?_ | refine r_iadd (pc := 220) dL_refuses_220 ?_
  refine r_call5 (pc := 221) rfl rfl dL_refuses_221 (s_ask b hT hO (by decide) (x_squareA (inQ_nI hZ (Nat.mod_lt _ (by omega)) (Nat.mod_lt _ (by omega))) (inR_big (by omega) (by omega)))) (by decide) (Nat.le_of_ble_eq_true rfl) ⟨by decide, by decide⟩ (fun M9 h9 => ?_)
  obtain ⟨hT, hY⟩ := h9
  have hX : ∀ i, 328 ≤ i → M9 i = M i := fun i hi => (hY i hi).trans (hX i hi)
  clear hY
  refine r_ldc (v := -9999002) (pc := 224) (tG 410 (by decide +kernel) (by decide +kernel)) dL_refuses_224 ?_
  refine r_icmp_ne (pc := 226) 879 (by decide) dL_refuses_226 (fun h9 => absurd rfl h9) (fun _ => ?_)
  refine r_aload0 (pc := 229) dL_refuses_229 ?_
  refine n_iconst_4 (pc := 230) dL_refuses_230 ?_
  refine r_iload5 (pc := 231) dL_refuses_231 ?_
  refine n_bipush (pc := 233) 99 (by decide) dL_refuses_233 ?_
  refine n_iconst_0 (pc := 235) dL_refuses_235 ?_
  refine r_call5 (pc := 236) rfl rfl dL_refuses_236 (s_ask b hT hO (by decide) (x_placeI (inR_ng (by omega)))) (by decide) (Nat.le_of_ble_eq_true rfl) ⟨by decide, by decide⟩ (fun M9 h9 => ?_)
  obtain ⟨hT, hY⟩ := h9
  have hX : ∀ i, 328 ≤ i → M9 i = M i := fun i hi => (hY i hi).trans (hX i hi)
  clear hY
  refine r_ldc (v := -9999001) (pc := 239) (tG 734 (by decide +kernel) (by decide +kernel)) dL_refuses_239 ?_
  refine r_icmp_ne (pc := 241) 879 (by decide) dL_refuses_241 (fun h9 => absurd rfl h9) (fun _ => ?_)
  refine r_aload0 (pc := 244) dL_refuses_244 ?_
  refine n_iconst_4 (pc := 245) dL_refuses_245 ?_
  refine r_iload1 (pc := 246) dL_refuses_246 ?_
  refine r_iload2 (pc := 247) dL_refuses_247 ?_
  refine n_irem (pc := 248) dL_refuses_248 (by omega) (by omega) (by omega) ?_
  refine n_bipush (pc := 249) 7 (by decide) dL_refuses_249 ?_
  refine r_iload1 (pc := 251) dL_refuses_251 ?_
  refine n_bipush (pc := 252) 9 (by decide) dL_refuses_252 ?_
  refine n_irem (pc := 254) dL_refuses_254 (by omega) (by omega) (by omega) ?_
  first | refine n_iadd (pc := 255) dL_refuses_255 ?_ | refine z_iadd (pc := 255) dL_refuses_255 ?_ | refine r_iadd (pc := 255) dL_refuses_255 ?_
  refine n_iconst_0 (pc := 256) dL_refuses_256 ?_
  refine r_call5 (pc := 257) rfl rfl dL_refuses_257 (s_ask b hT hO (by decide) (x_placeA (inR_in (Nat.mod_lt _ (by omega)) (by omega)) (inR_big (by omega) (by omega)))) (by decide) (Nat.le_of_ble_eq_true rfl) ⟨by decide, by decide⟩ (fun M9 h9 => ?_)
  obtain ⟨hT, hY⟩ := h9
  have hX : ∀ i, 328 ≤ i → M9 i = M i := fun i hi => (hY i hi).trans (hX i hi)
  clear hY
  refine r_ldc (v := -9999002) (pc := 260) (tG 410 (by decide +kernel) (by decide +kernel)) dL_refuses_260 ?_
  refine r_icmp_ne (pc := 262) 879 (by decide) dL_refuses_262 (fun h9 => absurd rfl h9) (fun _ => ?_)
  refine r_aload0 (pc := 265) dL_refuses_265 ?_
  refine n_iconst_5 (pc := 266) dL_refuses_266 ?_
  refine r_iload5 (pc := 267) dL_refuses_267 ?_
  refine n_bipush (pc := 269) 99 (by decide) dL_refuses_269 ?_
  refine n_iconst_0 (pc := 271) dL_refuses_271 ?_
  refine r_call5 (pc := 272) rfl rfl dL_refuses_272 (s_ask b hT hO (by decide) (x_tileI (inR_ng (by omega)))) (by decide) (Nat.le_of_ble_eq_true rfl) ⟨by decide, by decide⟩ (fun M9 h9 => ?_)
  obtain ⟨hT, hY⟩ := h9
  have hX : ∀ i, 328 ≤ i → M9 i = M i := fun i hi => (hY i hi).trans (hX i hi)
  clear hY
  refine r_ldc (v := -9999001) (pc := 275) (tG 734 (by decide +kernel) (by decide +kernel)) dL_refuses_275 ?_
  refine r_icmp_ne (pc := 277) 879 (by decide) dL_refuses_277 (fun h9 => absurd rfl h9) (fun _ => ?_)
  refine r_aload0 (pc := 280) dL_refuses_280 ?_
  refine n_iconst_5 (pc := 281) dL_refuses_281 ?_
  refine r_iload1 (pc := 282) dL_refuses_282 ?_
  refine r_iload2 (pc := 283) dL_refuses_283 ?_
  refine n_irem (pc := 284) dL_refuses_284 (by omega) (by omega) (by omega) ?_
  refine n_iconst_3 (pc := 285) dL_refuses_285 ?_
  refine r_iload1 (pc := 286) dL_refuses_286 ?_
  refine n_bipush (pc := 287) 9 (by decide) dL_refuses_287 ?_
  refine n_irem (pc := 289) dL_refuses_289 (by omega) (by omega) (by omega) ?_
  first | refine n_iadd (pc := 290) dL_refuses_290 ?_ | refine z_iadd (pc := 290) dL_refuses_290 ?_ | refine r_iadd (pc := 290) dL_refuses_290 ?_
  refine n_iconst_0 (pc := 291) dL_refuses_291 ?_
  refine r_call5 (pc := 292) rfl rfl dL_refuses_292 (s_ask b hT hO (by decide) (x_tileA (inR_in (Nat.mod_lt _ (by omega)) (by omega)) (inR_big (by omega) (by omega)))) (by decide) (Nat.le_of_ble_eq_true rfl) ⟨by decide, by decide⟩ (fun M9 h9 => ?_)
  obtain ⟨hT, hY⟩ := h9
  have hX : ∀ i, 328 ≤ i → M9 i = M i := fun i hi => (hY i hi).trans (hX i hi)
  clear hY
  refine r_ldc (v := -9999002) (pc := 295) (tG 410 (by decide +kernel) (by decide +kernel)) dL_refuses_295 ?_
  refine r_icmp_ne (pc := 297) 879 (by decide) dL_refuses_297 (fun h9 => absurd rfl h9) (fun _ => ?_)
  refine r_aload0 (pc := 300) dL_refuses_300 ?_
  refine n_bipush (pc := 301) 6 (by decide) dL_refuses_301 ?_
  refine r_iload1 (pc := 303) dL_refuses_303 ?_
  refine n_iconst_2 (pc := 304) dL_refuses_304 ?_
  refine n_irem (pc := 305) dL_refuses_305 (by omega) (by omega) (by omega) ?_
  refine n_if_ne (pc := 306) 313 (by decide) dL_refuses_306 (by omega) (fun hc306 => absurd hc306 (by omega)) (fun hc306 => ?_)
  refine n_iconst_1 (pc := 309) dL_refuses_309 ?_
  refine r_goto (pc := 310) 320 (by decide) dL_refuses_310 ?_
  refine n_iconst_1 (pc := 320) dL_refuses_320 ?_
  refine n_iconst_0 (pc := 321) dL_refuses_321 ?_
  refine r_call5 (pc := 322) rfl rfl dL_refuses_322 (s_ask b hT hO (by decide) (x_begin (Or.inl (inB_out (by omega) (Or.inl (by omega)))))) (by decide) (Nat.le_of_ble_eq_true rfl) ⟨by decide, by decide⟩ (fun M9 h9 => ?_)
  obtain ⟨hT, hY⟩ := h9
  have hX : ∀ i, 328 ≤ i → M9 i = M i := fun i hi => (hY i hi).trans (hX i hi)
  clear hY
  refine r_ldc (v := -9999002) (pc := 325) (tG 410 (by decide +kernel) (by decide +kernel)) dL_refuses_325 ?_
  refine r_icmp_ne (pc := 327) 879 (by decide) dL_refuses_327 (fun h9 => absurd rfl h9) (fun _ => ?_)
  refine r_aload0 (pc := 330) dL_refuses_330 ?_
  refine n_bipush (pc := 331) 6 (by decide) dL_refuses_331 ?_
  refine n_iconst_2 (pc := 333) dL_refuses_333 ?_
  refine r_iload1 (pc := 334) dL_refuses_334 ?_
  refine n_iconst_2 (pc := 335) dL_refuses_335 ?_
  refine n_irem (pc := 336) dL_refuses_336 (by omega) (by omega) (by omega) ?_
  refine n_if_ne (pc := 337) 344 (by decide) dL_refuses_337 (by omega) (fun hc337 => absurd hc337 (by omega)) (fun hc337 => ?_)
  refine n_iconst_0 (pc := 340) dL_refuses_340 ?_
  refine r_goto (pc := 341) 350 (by decide) dL_refuses_341 ?_
  refine n_iconst_0 (pc := 350) dL_refuses_350 ?_
  refine r_call5 (pc := 351) rfl rfl dL_refuses_351 (s_ask b hT hO (by decide) (x_begin (Or.inr (inB_out (by omega) (Or.inl (by omega)))))) (by decide) (Nat.le_of_ble_eq_true rfl) ⟨by decide, by decide⟩ (fun M9 h9 => ?_)
  obtain ⟨hT, hY⟩ := h9
  have hX : ∀ i, 328 ≤ i → M9 i = M i := fun i hi => (hY i hi).trans (hX i hi)
  clear hY
  refine r_ldc (v := -9999002) (pc := 354) (tG 410 (by decide +kernel) (by decide +kernel)) dL_refuses_354 ?_
  refine r_icmp_ne (pc := 356) 879 (by decide) dL_refuses_356 (fun h9 => absurd rfl h9) (fun _ => ?_)
  refine r_aload0 (pc := 359) dL_refuses_359 ?_
  refine n_bipush (pc := 360) 7 (by decide) dL_refuses_360 ?_
  refine r_iload6 (pc := 362) dL_refuses_362 ?_
  refine n_iconst_0 (pc := 364) dL_refuses_364 ?_
  refine r_iload8 (pc := 365) dL_refuses_365 ?_
  refine r_call5 (pc := 367) rfl rfl dL_refuses_367 (s_ask b hT hO (by decide) (x_greyI (inQ_x (inR_ng (by omega))))) (by decide) (Nat.le_of_ble_eq_true rfl) ⟨by decide, by decide⟩ (fun M9 h9 => ?_)
  obtain ⟨hT, hY⟩ := h9
  have hX : ∀ i, 328 ≤ i → M9 i = M i := fun i hi => (hY i hi).trans (hX i hi)
  clear hY
  refine r_ldc (v := -9999001) (pc := 370) (tG 734 (by decide +kernel) (by decide +kernel)) dL_refuses_370 ?_
  refine r_icmp_ne (pc := 372) 879 (by decide) dL_refuses_372 (fun h9 => absurd rfl h9) (fun _ => ?_)
  refine r_aload0 (pc := 375) dL_refuses_375 ?_
  refine n_bipush (pc := 376) 7 (by decide) dL_refuses_376 ?_
  refine n_iconst_0 (pc := 378) dL_refuses_378 ?_
  refine r_iload7 (pc := 379) dL_refuses_379 ?_
  refine r_iload8 (pc := 381) dL_refuses_381 ?_
  refine r_call5 (pc := 383) rfl rfl dL_refuses_383 (s_ask b hT hO (by decide) (x_greyI (inQ_y (inR_ng (by omega))))) (by decide) (Nat.le_of_ble_eq_true rfl) ⟨by decide, by decide⟩ (fun M9 h9 => ?_)
  obtain ⟨hT, hY⟩ := h9
  have hX : ∀ i, 328 ≤ i → M9 i = M i := fun i hi => (hY i hi).trans (hX i hi)
  clear hY
  refine r_ldc (v := -9999001) (pc := 386) (tG 734 (by decide +kernel) (by decide +kernel)) dL_refuses_386 ?_
  refine r_icmp_ne (pc := 388) 879 (by decide) dL_refuses_388 (fun h9 => absurd rfl h9) (fun _ => ?_)
  refine r_aload0 (pc := 391) dL_refuses_391 ?_
  refine n_bipush (pc := 392) 7 (by decide) dL_refuses_392 ?_
  refine r_iload1 (pc := 394) dL_refuses_394 ?_
  refine r_iload3 (pc := 395) dL_refuses_395 ?_
  refine n_irem (pc := 396) dL_refuses_396 (by omega) (by omega) (by omega) ?_
  refine r_iload1 (pc := 397) dL_refuses_397 ?_
  refine r_iload4 (pc := 398) dL_refuses_398 ?_
  refine n_irem (pc := 400) dL_refuses_400 (by omega) (by omega) (by omega) ?_
  refine r_iload8 (pc := 401) dL_refuses_401 ?_
  refine r_call5 (pc := 403) rfl rfl dL_refuses_403 (s_ask b hT hO (by decide) (x_greyA (inQ_nI hZ (Nat.mod_lt _ (by omega)) (Nat.mod_lt _ (by omega))) (inB_ng (by omega)))) (by decide) (Nat.le_of_ble_eq_true rfl) ⟨by decide, by decide⟩ (fun M9 h9 => ?_)
  obtain ⟨hT, hY⟩ := h9
  have hX : ∀ i, 328 ≤ i → M9 i = M i := fun i hi => (hY i hi).trans (hX i hi)
  clear hY
  refine r_ldc (v := -9999002) (pc := 406) (tG 410 (by decide +kernel) (by decide +kernel)) dL_refuses_406 ?_
  refine r_icmp_ne (pc := 408) 879 (by decide) dL_refuses_408 (fun h9 => absurd rfl h9) (fun _ => ?_)
  refine r_aload0 (pc := 411) dL_refuses_411 ?_
  refine n_bipush (pc := 412) 8 (by decide) dL_refuses_412 ?_
  refine r_iload8 (pc := 414) dL_refuses_414 ?_
  refine n_iconst_0 (pc := 416) dL_refuses_416 ?_
  refine n_iconst_0 (pc := 417) dL_refuses_417 ?_
  refine r_call5 (pc := 418) rfl rfl dL_refuses_418 (s_ask b hT hO (by decide) (x_fade (Or.inl (inB_ng (by omega))))) (by decide) (Nat.le_of_ble_eq_true rfl) ⟨by decide, by decide⟩ (fun M9 h9 => ?_)
  obtain ⟨hT, hY⟩ := h9
  have hX : ∀ i, 328 ≤ i → M9 i = M i := fun i hi => (hY i hi).trans (hX i hi)
  clear hY
  refine r_ldc (v := -9999002) (pc := 421) (tG 410 (by decide +kernel) (by decide +kernel)) dL_refuses_421 ?_
  refine r_icmp_ne (pc := 423) 879 (by decide) dL_refuses_423 (fun h9 => absurd rfl h9) (fun _ => ?_)
  refine r_aload0 (pc := 426) dL_refuses_426 ?_
  refine n_bipush (pc := 427) 8 (by decide) dL_refuses_427 ?_
  refine n_iconst_0 (pc := 429) dL_refuses_429 ?_
  refine r_iload8 (pc := 430) dL_refuses_430 ?_
  refine n_iconst_0 (pc := 432) dL_refuses_432 ?_
  refine r_call5 (pc := 433) rfl rfl dL_refuses_433 (s_ask b hT hO (by decide) (x_fade (Or.inr (inB_ng (by omega))))) (by decide) (Nat.le_of_ble_eq_true rfl) ⟨by decide, by decide⟩ (fun M9 h9 => ?_)
  obtain ⟨hT, hY⟩ := h9
  have hX : ∀ i, 328 ≤ i → M9 i = M i := fun i hi => (hY i hi).trans (hX i hi)
  clear hY
  refine r_ldc (v := -9999002) (pc := 436) (tG 410 (by decide +kernel) (by decide +kernel)) dL_refuses_436 ?_
  refine r_icmp_ne (pc := 438) 879 (by decide) dL_refuses_438 (fun h9 => absurd rfl h9) (fun _ => ?_)
  refine r_aload0 (pc := 441) dL_refuses_441 ?_
  refine n_bipush (pc := 442) 9 (by decide) dL_refuses_442 ?_
  refine r_iload5 (pc := 444) dL_refuses_444 ?_
  refine n_iconst_0 (pc := 446) dL_refuses_446 ?_
  refine n_iconst_0 (pc := 447) dL_refuses_447 ?_
  refine r_call5 (pc := 448) rfl rfl dL_refuses_448 (s_ask b hT hO (by decide) (x_turn (inR_ng (by omega)))) (by decide) (Nat.le_of_ble_eq_true rfl) ⟨by decide, by decide⟩ (fun M9 h9 => ?_)
  obtain ⟨hT, hY⟩ := h9
  have hX : ∀ i, 328 ≤ i → M9 i = M i := fun i hi => (hY i hi).trans (hX i hi)
  clear hY
  refine r_ldc (v := -9999001) (pc := 451) (tG 734 (by decide +kernel) (by decide +kernel)) dL_refuses_451 ?_
  refine r_icmp_ne (pc := 453) 879 (by decide) dL_refuses_453 (fun h9 => absurd rfl h9) (fun _ => ?_)
  refine r_aload0 (pc := 456) dL_refuses_456 ?_
  refine n_bipush (pc := 457) 10 (by decide) dL_refuses_457 ?_
  refine r_iload5 (pc := 459) dL_refuses_459 ?_
  refine r_iload5 (pc := 461) dL_refuses_461 ?_
  refine n_iconst_0 (pc := 463) dL_refuses_463 ?_
  refine r_call5 (pc := 464) rfl rfl dL_refuses_464 (s_ask b hT hO (by decide) (x_swapI (Or.inl (inR_ng (by omega))))) (by decide) (Nat.le_of_ble_eq_true rfl) ⟨by decide, by decide⟩ (fun M9 h9 => ?_)
  obtain ⟨hT, hY⟩ := h9
  have hX : ∀ i, 328 ≤ i → M9 i = M i := fun i hi => (hY i hi).trans (hX i hi)
  clear hY
  refine r_ldc (v := -9999001) (pc := 467) (tG 734 (by decide +kernel) (by decide +kernel)) dL_refuses_467 ?_
  refine r_icmp_ne (pc := 469) 879 (by decide) dL_refuses_469 (fun h9 => absurd rfl h9) (fun _ => ?_)
  refine r_aload0 (pc := 472) dL_refuses_472 ?_
  refine n_bipush (pc := 473) 10 (by decide) dL_refuses_473 ?_
  refine r_iload1 (pc := 475) dL_refuses_475 ?_
  refine r_iload2 (pc := 476) dL_refuses_476 ?_
  refine n_irem (pc := 477) dL_refuses_477 (by omega) (by omega) (by omega) ?_
  refine r_iload1 (pc := 478) dL_refuses_478 ?_
  refine r_iload2 (pc := 479) dL_refuses_479 ?_
  refine n_irem (pc := 480) dL_refuses_480 (by omega) (by omega) (by omega) ?_
  refine n_iconst_0 (pc := 481) dL_refuses_481 ?_
  refine r_call5 (pc := 482) rfl rfl dL_refuses_482 (s_ask b hT hO (by decide) (x_swapA (inR_in (Nat.mod_lt _ (by omega)) (by omega)))) (by decide) (Nat.le_of_ble_eq_true rfl) ⟨by decide, by decide⟩ (fun M9 h9 => ?_)
  obtain ⟨hT, hY⟩ := h9
  have hX : ∀ i, 328 ≤ i → M9 i = M i := fun i hi => (hY i hi).trans (hX i hi)
  clear hY
  refine r_ldc (v := -9999002) (pc := 485) (tG 410 (by decide +kernel) (by decide +kernel)) dL_refuses_485 ?_
  refine r_icmp_ne (pc := 487) 879 (by decide) dL_refuses_487 (fun h9 => absurd rfl h9) (fun _ => ?_)
  refine r_aload0 (pc := 490) dL_refuses_490 ?_
  refine n_bipush (pc := 491) 10 (by decide) dL_refuses_491 ?_
  refine n_iconst_0 (pc := 493) dL_refuses_493 ?_
  refine r_iload5 (pc := 494) dL_refuses_494 ?_
  refine n_iconst_0 (pc := 496) dL_refuses_496 ?_
  refine r_call5 (pc := 497) rfl rfl dL_refuses_497 (s_ask b hT hO (by decide) (x_swapI (Or.inr (inR_ng (by omega))))) (by decide) (Nat.le_of_ble_eq_true rfl) ⟨by decide, by decide⟩ (fun M9 h9 => ?_)
  obtain ⟨hT, hY⟩ := h9
  have hX : ∀ i, 328 ≤ i → M9 i = M i := fun i hi => (hY i hi).trans (hX i hi)
  clear hY
  refine r_ldc (v := -9999001) (pc := 500) (tG 734 (by decide +kernel) (by decide +kernel)) dL_refuses_500 ?_
  refine r_icmp_ne (pc := 502) 879 (by decide) dL_refuses_502 (fun h9 => absurd rfl h9) (fun _ => ?_)
  refine r_aload0 (pc := 505) dL_refuses_505 ?_
  refine n_bipush (pc := 506) 11 (by decide) dL_refuses_506 ?_
  refine r_iload6 (pc := 508) dL_refuses_508 ?_
  refine n_iconst_0 (pc := 510) dL_refuses_510 ?_
  refine n_iconst_0 (pc := 511) dL_refuses_511 ?_
  refine r_call5 (pc := 512) rfl rfl dL_refuses_512 (s_ask b hT hO (by decide) (x_flipI (inQ_x (inR_ng (by omega))))) (by decide) (Nat.le_of_ble_eq_true rfl) ⟨by decide, by decide⟩ (fun M9 h9 => ?_)
  obtain ⟨hT, hY⟩ := h9
  have hX : ∀ i, 328 ≤ i → M9 i = M i := fun i hi => (hY i hi).trans (hX i hi)
  clear hY
  refine r_ldc (v := -9999001) (pc := 515) (tG 734 (by decide +kernel) (by decide +kernel)) dL_refuses_515 ?_
  refine r_icmp_ne (pc := 517) 879 (by decide) dL_refuses_517 (fun h9 => absurd rfl h9) (fun _ => ?_)
  refine r_aload0 (pc := 520) dL_refuses_520 ?_
  refine n_bipush (pc := 521) 11 (by decide) dL_refuses_521 ?_
  refine n_iconst_0 (pc := 523) dL_refuses_523 ?_
  refine r_iload7 (pc := 524) dL_refuses_524 ?_
  refine n_iconst_0 (pc := 526) dL_refuses_526 ?_
  refine r_call5 (pc := 527) rfl rfl dL_refuses_527 (s_ask b hT hO (by decide) (x_flipI (inQ_y (inR_ng (by omega))))) (by decide) (Nat.le_of_ble_eq_true rfl) ⟨by decide, by decide⟩ (fun M9 h9 => ?_)
  obtain ⟨hT, hY⟩ := h9
  have hX : ∀ i, 328 ≤ i → M9 i = M i := fun i hi => (hY i hi).trans (hX i hi)
  clear hY
  refine r_ldc (v := -9999001) (pc := 530) (tG 734 (by decide +kernel) (by decide +kernel)) dL_refuses_530 ?_
  refine r_icmp_ne (pc := 532) 879 (by decide) dL_refuses_532 (fun h9 => absurd rfl h9) (fun _ => ?_)
  refine r_aload0 (pc := 535) dL_refuses_535 ?_
  refine n_bipush (pc := 536) 11 (by decide) dL_refuses_536 ?_
  refine r_iload3 (pc := 538) dL_refuses_538 ?_
  refine n_iconst_1 (pc := 539) dL_refuses_539 ?_
  refine n_isub (pc := 540) dL_refuses_540 (by omega) ?_
  refine r_iload1 (pc := 541) dL_refuses_541 ?_
  refine r_iload4 (pc := 542) dL_refuses_542 ?_
  refine n_irem (pc := 544) dL_refuses_544 (by omega) (by omega) (by omega) ?_
  refine n_iconst_0 (pc := 545) dL_refuses_545 ?_
  refine r_call5 (pc := 546) rfl rfl dL_refuses_546 (s_ask b hT hO (by decide) (x_flipS hO (by omega) (Nat.mod_lt _ (by omega)) (can_col hZ hcol))) (by decide) (Nat.le_of_ble_eq_true rfl) ⟨by decide, by decide⟩ (fun M9 h9 => ?_)
  obtain ⟨hT, hY⟩ := h9
  have hX : ∀ i, 328 ≤ i → M9 i = M i := fun i hi => (hY i hi).trans (hX i hi)
  clear hY
  refine r_ldc (v := -9999003) (pc := 549) (tG 411 (by decide +kernel) (by decide +kernel)) dL_refuses_549 ?_
  refine r_icmp_ne (pc := 551) 879 (by decide) dL_refuses_551 (fun h9 => absurd rfl h9) (fun _ => ?_)
  refine r_aload0 (pc := 554) dL_refuses_554 ?_
  refine n_bipush (pc := 555) 11 (by decide) dL_refuses_555 ?_
  refine r_iload1 (pc := 557) dL_refuses_557 ?_
  refine r_iload3 (pc := 558) dL_refuses_558 ?_
  refine n_irem (pc := 559) dL_refuses_559 (by omega) (by omega) (by omega) ?_
  refine r_iload4 (pc := 560) dL_refuses_560 ?_
  refine n_iconst_1 (pc := 562) dL_refuses_562 ?_
  refine n_isub (pc := 563) dL_refuses_563 (by omega) ?_
  refine n_iconst_0 (pc := 564) dL_refuses_564 ?_
  refine r_call5 (pc := 565) rfl rfl dL_refuses_565 (s_ask b hT hO (by decide) (x_flipS hO (Nat.mod_lt _ (by omega)) (by omega) (can_row hZ (by omega)))) (by decide) (Nat.le_of_ble_eq_true rfl) ⟨by decide, by decide⟩ (fun M9 h9 => ?_)
  obtain ⟨hT, hY⟩ := h9
  have hX : ∀ i, 328 ≤ i → M9 i = M i := fun i hi => (hY i hi).trans (hX i hi)
  clear hY
  refine r_ldc (v := -9999003) (pc := 568) (tG 411 (by decide +kernel) (by decide +kernel)) dL_refuses_568 ?_
  refine r_icmp_ne (pc := 570) 879 (by decide) dL_refuses_570 (fun h9 => absurd rfl h9) (fun _ => ?_)
  refine r_aload0 (pc := 573) dL_refuses_573 ?_
  refine r_iload5 (pc := 574) dL_refuses_574 ?_
  refine n_iconst_1 (pc := 576) dL_refuses_576 ?_
  refine r_callW3 (pc := 577) lkw_172 rfl dL_refuses_577 (s_holdsX b hT hO (inR_ng (by omega))) (by decide) (Nat.le_of_ble_eq_true rfl) ⟨by decide, by decide⟩ (fun M9 h9 => ?_)
  obtain ⟨hT, hY⟩ := h9
  have hX : ∀ i, 328 ≤ i → M9 i = M i := fun i hi => (hY i hi).trans (hX i hi)
  clear hY
  refine r_ldc (v := -9999001) (pc := 580) (tG 734 (by decide +kernel) (by decide +kernel)) dL_refuses_580 ?_
  refine r_icmp_ne (pc := 582) 879 (by decide) dL_refuses_582 (fun h9 => absurd rfl h9) (fun _ => ?_)
  refine r_aload0 (pc := 585) dL_refuses_585 ?_
  refine n_bipush (pc := 586) 12 (by decide) dL_refuses_586 ?_
  refine r_iload1 (pc := 588) dL_refuses_588 ?_
  refine n_iconst_2 (pc := 589) dL_refuses_589 ?_
  refine n_irem (pc := 590) dL_refuses_590 (by omega) (by omega) (by omega) ?_
  refine n_if_ne (pc := 591) 598 (by decide) dL_refuses_591 (by omega) (fun hc591 => absurd hc591 (by omega)) (fun hc591 => ?_)
  refine n_iconst_0 (pc := 594) dL_refuses_594 ?_
  refine r_goto (pc := 595) 605 (by decide) dL_refuses_595 ?_
  refine n_iconst_0 (pc := 605) dL_refuses_605 ?_
  refine n_iconst_0 (pc := 606) dL_refuses_606 ?_
  refine r_call5 (pc := 607) rfl rfl dL_refuses_607 (s_ask b hT hO (by decide) (x_improve (inB_out (by omega) (Or.inl (by omega))))) (by decide) (Nat.le_of_ble_eq_true rfl) ⟨by decide, by decide⟩ (fun M9 h9 => ?_)
  obtain ⟨hT, hY⟩ := h9
  have hX : ∀ i, 328 ≤ i → M9 i = M i := fun i hi => (hY i hi).trans (hX i hi)
  clear hY
  refine r_ldc (v := -9999002) (pc := 610) (tG 410 (by decide +kernel) (by decide +kernel)) dL_refuses_610 ?_
  refine r_icmp_ne (pc := 612) 879 (by decide) dL_refuses_612 (fun h9 => absurd rfl h9) (fun _ => ?_)
  refine r_aload0 (pc := 615) dL_refuses_615 ?_
  refine n_bipush (pc := 616) 14 (by decide) dL_refuses_616 ?_
  refine r_iload1 (pc := 618) dL_refuses_618 ?_
  refine n_iconst_2 (pc := 619) dL_refuses_619 ?_
  refine n_irem (pc := 620) dL_refuses_620 (by omega) (by omega) (by omega) ?_
  refine n_if_ne (pc := 621) 633 (by decide) dL_refuses_621 (by omega) (fun hc621 => absurd hc621 (by omega)) (fun hc621 => ?_)
  refine r_iconst_m1 (pc := 624) dL_refuses_624 ?_
  refine r_iload1 (pc := 625) dL_refuses_625 ?_
  refine n_bipush (pc := 626) 99 (by decide) dL_refuses_626 ?_
  refine n_irem (pc := 628) dL_refuses_628 (by omega) (by omega) (by omega) ?_
  refine r_isub (pc := 629) dL_refuses_629 ?_
  refine r_goto (pc := 630) 641 (by decide) dL_refuses_630 ?_
  refine n_iconst_0 (pc := 641) dL_refuses_641 ?_
  refine n_iconst_0 (pc := 642) dL_refuses_642 ?_
  refine r_call5 (pc := 643) rfl rfl dL_refuses_643 (s_ask b hT hO (by decide) (x_gain (inR_ng (by omega)))) (by decide) (Nat.le_of_ble_eq_true rfl) ⟨by decide, by decide⟩ (fun M9 h9 => ?_)
  obtain ⟨hT, hY⟩ := h9
  have hX : ∀ i, 328 ≤ i → M9 i = M i := fun i hi => (hY i hi).trans (hX i hi)
  clear hY
  refine r_ldc (v := -9999002) (pc := 646) (tG 410 (by decide +kernel) (by decide +kernel)) dL_refuses_646 ?_
  refine r_icmp_ne (pc := 648) 879 (by decide) dL_refuses_648 (fun h9 => absurd rfl h9) (fun _ => ?_)
  refine r_aload0 (pc := 651) dL_refuses_651 ?_
  refine n_bipush (pc := 652) 14 (by decide) dL_refuses_652 ?_
  refine r_iload2 (pc := 654) dL_refuses_654 ?_
  refine r_iload1 (pc := 655) dL_refuses_655 ?_
  refine n_sipush (pc := 656) 900 (by decide) dL_refuses_656 ?_
  refine n_irem (pc := 659) dL_refuses_659 (by omega) (by omega) (by omega) ?_
  first | refine n_iadd (pc := 660) dL_refuses_660 ?_ | refine z_iadd (pc := 660) dL_refuses_660 ?_ | refine r_iadd (pc := 660) dL_refuses_660 ?_
  refine n_iconst_0 (pc := 661) dL_refuses_661 ?_
  refine n_iconst_0 (pc := 662) dL_refuses_662 ?_
  refine r_call5 (pc := 663) rfl rfl dL_refuses_663 (s_ask b hT hO (by decide) (x_gainP (by omega) (pos_noT (by omega) (by omega)))) (by decide) (Nat.le_of_ble_eq_true rfl) ⟨by decide, by decide⟩ (fun M9 h9 => ?_)
  obtain ⟨hT, hY⟩ := h9
  have hX : ∀ i, 328 ≤ i → M9 i = M i := fun i hi => (hY i hi).trans (hX i hi)
  clear hY
  refine r_ldc (v := -9999002) (pc := 666) (tG 410 (by decide +kernel) (by decide +kernel)) dL_refuses_666 ?_
  refine r_icmp_ne (pc := 668) 879 (by decide) dL_refuses_668 (fun h9 => absurd rfl h9) (fun _ => ?_)
  refine r_aload0 (pc := 671) dL_refuses_671 ?_
  refine n_bipush (pc := 672) 14 (by decide) dL_refuses_672 ?_
  refine n_sipush (pc := 674) 10000 (by decide) dL_refuses_674 ?_
  refine n_bipush (pc := 677) 101 (by decide) dL_refuses_677 ?_
  refine r_iload1 (pc := 679) dL_refuses_679 ?_
  refine r_iload2 (pc := 680) dL_refuses_680 ?_
  refine n_irem (pc := 681) dL_refuses_681 (by omega) (by omega) (by omega) ?_
  first | refine n_imul (pc := 682) dL_refuses_682 ?_ | refine z_imul (pc := 682) dL_refuses_682 ?_ | refine r_imul (pc := 682) dL_refuses_682 ?_
  first | refine n_iadd (pc := 683) dL_refuses_683 ?_ | refine z_iadd (pc := 683) dL_refuses_683 ?_ | refine r_iadd (pc := 683) dL_refuses_683 ?_
  refine n_iconst_0 (pc := 684) dL_refuses_684 ?_
  refine n_iconst_0 (pc := 685) dL_refuses_685 ?_
  refine r_call5 (pc := 686) rfl rfl dL_refuses_686 (s_ask b hT hO (by decide) (x_gainP (by omega) (pos_noS (by omega)))) (by decide) (Nat.le_of_ble_eq_true rfl) ⟨by decide, by decide⟩ (fun M9 h9 => ?_)
  obtain ⟨hT, hY⟩ := h9
  have hX : ∀ i, 328 ≤ i → M9 i = M i := fun i hi => (hY i hi).trans (hX i hi)
  clear hY
  refine r_ldc (v := -9999002) (pc := 689) (tG 410 (by decide +kernel) (by decide +kernel)) dL_refuses_689 ?_
  refine r_icmp_ne (pc := 691) 879 (by decide) dL_refuses_691 (fun h9 => absurd rfl h9) (fun _ => ?_)
  refine r_aload0 (pc := 694) dL_refuses_694 ?_
  refine n_bipush (pc := 695) 15 (by decide) dL_refuses_695 ?_
  refine n_iconst_2 (pc := 697) dL_refuses_697 ?_
  refine r_iload1 (pc := 698) dL_refuses_698 ?_
  refine n_bipush (pc := 699) 9 (by decide) dL_refuses_699 ?_
  refine n_irem (pc := 701) dL_refuses_701 (by omega) (by omega) (by omega) ?_
  first | refine n_iadd (pc := 702) dL_refuses_702 ?_ | refine z_iadd (pc := 702) dL_refuses_702 ?_ | refine r_iadd (pc := 702) dL_refuses_702 ?_
  refine n_iconst_0 (pc := 703) dL_refuses_703 ?_
  refine n_iconst_0 (pc := 704) dL_refuses_704 ?_
  refine r_call5 (pc := 705) rfl rfl dL_refuses_705 (s_ask b hT hO (by decide) (x_best (inR_big (by omega) (by omega)))) (by decide) (Nat.le_of_ble_eq_true rfl) ⟨by decide, by decide⟩ (fun M9 h9 => ?_)
  obtain ⟨hT, hY⟩ := h9
  have hX : ∀ i, 328 ≤ i → M9 i = M i := fun i hi => (hY i hi).trans (hX i hi)
  clear hY
  refine r_ldc (v := -9999002) (pc := 708) (tG 410 (by decide +kernel) (by decide +kernel)) dL_refuses_708 ?_
  refine r_icmp_ne (pc := 710) 879 (by decide) dL_refuses_710 (fun h9 => absurd rfl h9) (fun _ => ?_)
  refine r_aload0 (pc := 713) dL_refuses_713 ?_
  refine n_bipush (pc := 714) 16 (by decide) dL_refuses_714 ?_
  refine r_iload1 (pc := 716) dL_refuses_716 ?_
  refine n_iconst_2 (pc := 717) dL_refuses_717 ?_
  refine n_irem (pc := 718) dL_refuses_718 (by omega) (by omega) (by omega) ?_
  refine n_if_ne (pc := 719) 726 (by decide) dL_refuses_719 (by omega) (fun hc719 => absurd hc719 (by omega)) (fun hc719 => ?_)
  refine n_iconst_0 (pc := 722) dL_refuses_722 ?_
  refine r_goto (pc := 723) 733 (by decide) dL_refuses_723 ?_
  refine n_iconst_0 (pc := 733) dL_refuses_733 ?_
  refine n_iconst_0 (pc := 734) dL_refuses_734 ?_
  refine r_call5 (pc := 735) rfl rfl dL_refuses_735 (s_ask b hT hO (by decide) (x_if (Or.inl (inB_out (by omega) (Or.inl (by omega)))))) (by decide) (Nat.le_of_ble_eq_true rfl) ⟨by decide, by decide⟩ (fun M9 h9 => ?_)
  obtain ⟨hT, hY⟩ := h9
  have hX : ∀ i, 328 ≤ i → M9 i = M i := fun i hi => (hY i hi).trans (hX i hi)
  clear hY
  refine r_ldc (v := -9999002) (pc := 738) (tG 410 (by decide +kernel) (by decide +kernel)) dL_refuses_738 ?_
  refine r_icmp_ne (pc := 740) 879 (by decide) dL_refuses_740 (fun h9 => absurd rfl h9) (fun _ => ?_)
  refine r_aload0 (pc := 743) dL_refuses_743 ?_
  refine n_bipush (pc := 744) 16 (by decide) dL_refuses_744 ?_
  refine n_iconst_1 (pc := 746) dL_refuses_746 ?_
  refine n_iconst_2 (pc := 747) dL_refuses_747 ?_
  refine r_iload1 (pc := 748) dL_refuses_748 ?_
  refine n_bipush (pc := 749) 9 (by decide) dL_refuses_749 ?_
  refine n_irem (pc := 751) dL_refuses_751 (by omega) (by omega) (by omega) ?_
  first | refine n_iadd (pc := 752) dL_refuses_752 ?_ | refine z_iadd (pc := 752) dL_refuses_752 ?_ | refine r_iadd (pc := 752) dL_refuses_752 ?_
  refine n_iconst_0 (pc := 753) dL_refuses_753 ?_
  refine r_call5 (pc := 754) rfl rfl dL_refuses_754 (s_ask b hT hO (by decide) (x_if (Or.inr (inR_big (by omega) (by omega))))) (by decide) (Nat.le_of_ble_eq_true rfl) ⟨by decide, by decide⟩ (fun M9 h9 => ?_)
  obtain ⟨hT, hY⟩ := h9
  have hX : ∀ i, 328 ≤ i → M9 i = M i := fun i hi => (hY i hi).trans (hX i hi)
  clear hY
  refine r_ldc (v := -9999002) (pc := 757) (tG 410 (by decide +kernel) (by decide +kernel)) dL_refuses_757 ?_
  refine r_icmp_ne (pc := 759) 879 (by decide) dL_refuses_759 (fun h9 => absurd rfl h9) (fun _ => ?_)
  refine r_aload0 (pc := 762) dL_refuses_762 ?_
  refine n_bipush (pc := 763) 17 (by decide) dL_refuses_763 ?_
  refine r_iload5 (pc := 765) dL_refuses_765 ?_
  refine n_iconst_0 (pc := 767) dL_refuses_767 ?_
  refine n_iconst_0 (pc := 768) dL_refuses_768 ?_
  refine r_call5 (pc := 769) rfl rfl dL_refuses_769 (s_ask b hT hO (by decide) (x_worst (inR_ng (by omega)))) (by decide) (Nat.le_of_ble_eq_true rfl) ⟨by decide, by decide⟩ (fun M9 h9 => ?_)
  obtain ⟨hT, hY⟩ := h9
  have hX : ∀ i, 328 ≤ i → M9 i = M i := fun i hi => (hY i hi).trans (hX i hi)
  clear hY
  refine r_ldc (v := -9999001) (pc := 772) (tG 734 (by decide +kernel) (by decide +kernel)) dL_refuses_772 ?_
  refine r_icmp_ne (pc := 774) 879 (by decide) dL_refuses_774 (fun h9 => absurd rfl h9) (fun _ => ?_)
  refine r_aload0 (pc := 777) dL_refuses_777 ?_
  refine n_bipush (pc := 778) 18 (by decide) dL_refuses_778 ?_
  refine r_iload5 (pc := 780) dL_refuses_780 ?_
  refine n_iconst_0 (pc := 782) dL_refuses_782 ?_
  refine n_iconst_0 (pc := 783) dL_refuses_783 ?_
  refine r_call5 (pc := 784) rfl rfl dL_refuses_784 (s_ask b hT hO (by decide) (x_fits (inR_ng (by omega)))) (by decide) (Nat.le_of_ble_eq_true rfl) ⟨by decide, by decide⟩ (fun M9 h9 => ?_)
  obtain ⟨hT, hY⟩ := h9
  have hX : ∀ i, 328 ≤ i → M9 i = M i := fun i hi => (hY i hi).trans (hX i hi)
  clear hY
  refine r_ldc (v := -9999001) (pc := 787) (tG 734 (by decide +kernel) (by decide +kernel)) dL_refuses_787 ?_
  refine r_icmp_ne (pc := 789) 879 (by decide) dL_refuses_789 (fun h9 => absurd rfl h9) (fun _ => ?_)
  refine r_aload0 (pc := 792) dL_refuses_792 ?_
  refine n_bipush (pc := 793) 19 (by decide) dL_refuses_793 ?_
  refine n_iconst_2 (pc := 795) dL_refuses_795 ?_
  refine r_iload1 (pc := 796) dL_refuses_796 ?_
  refine n_bipush (pc := 797) 50 (by decide) dL_refuses_797 ?_
  refine n_irem (pc := 799) dL_refuses_799 (by omega) (by omega) (by omega) ?_
  first | refine n_iadd (pc := 800) dL_refuses_800 ?_ | refine z_iadd (pc := 800) dL_refuses_800 ?_ | refine r_iadd (pc := 800) dL_refuses_800 ?_
  refine n_iconst_0 (pc := 801) dL_refuses_801 ?_
  refine n_iconst_0 (pc := 802) dL_refuses_802 ?_
  refine r_call5 (pc := 803) rfl rfl dL_refuses_803 (s_ask b hT hO (by decide) (x_save (inR_big (by omega) (by omega)))) (by decide) (Nat.le_of_ble_eq_true rfl) ⟨by decide, by decide⟩ (fun M9 h9 => ?_)
  obtain ⟨hT, hY⟩ := h9
  have hX : ∀ i, 328 ≤ i → M9 i = M i := fun i hi => (hY i hi).trans (hX i hi)
  clear hY
  refine r_ldc (v := -9999001) (pc := 806) (tG 734 (by decide +kernel) (by decide +kernel)) dL_refuses_806 ?_
  refine r_icmp_ne (pc := 808) 879 (by decide) dL_refuses_808 (fun h9 => absurd rfl h9) (fun _ => ?_)
  refine r_aload0 (pc := 811) dL_refuses_811 ?_
  refine n_bipush (pc := 812) 20 (by decide) dL_refuses_812 ?_
  refine r_iconst_m1 (pc := 814) dL_refuses_814 ?_
  refine r_iload1 (pc := 815) dL_refuses_815 ?_
  refine n_bipush (pc := 816) 9 (by decide) dL_refuses_816 ?_
  refine n_irem (pc := 818) dL_refuses_818 (by omega) (by omega) (by omega) ?_
  refine r_isub (pc := 819) dL_refuses_819 ?_
  refine n_iconst_0 (pc := 820) dL_refuses_820 ?_
  refine n_iconst_0 (pc := 821) dL_refuses_821 ?_
  refine r_call5 (pc := 822) rfl rfl dL_refuses_822 (s_ask b hT hO (by decide) (x_restore (inR_ng (by omega)))) (by decide) (Nat.le_of_ble_eq_true rfl) ⟨by decide, by decide⟩ (fun M9 h9 => ?_)
  obtain ⟨hT, hY⟩ := h9
  have hX : ∀ i, 328 ≤ i → M9 i = M i := fun i hi => (hY i hi).trans (hX i hi)
  clear hY
  refine r_ldc (v := -9999001) (pc := 825) (tG 734 (by decide +kernel) (by decide +kernel)) dL_refuses_825 ?_
  refine r_icmp_ne (pc := 827) 879 (by decide) dL_refuses_827 (fun h9 => absurd rfl h9) (fun _ => ?_)
  refine r_aload0 (pc := 830) dL_refuses_830 ?_
  refine n_iconst_0 (pc := 831) dL_refuses_831 ?_
  refine r_lconst_0 (pc := 832) dL_refuses_832 ?_
  refine r_callW3 (pc := 833) lkw_176 rfl dL_refuses_833 (s_scriptX b hT hO (by rw [show inB (nI 0) 1 3 = false from inB_out (by decide) (Or.inl (by decide))]; rfl)) (by decide) (Nat.le_of_ble_eq_true rfl) ⟨by decide, by decide⟩ (fun M9 h9 => ?_)
  obtain ⟨hT, hY⟩ := h9
  have hX : ∀ i, 328 ≤ i → M9 i = M i := fun i hi => (hY i hi).trans (hX i hi)
  clear hY
  refine r_ldc (v := -9999002) (pc := 836) (tG 410 (by decide +kernel) (by decide +kernel)) dL_refuses_836 ?_
  refine r_icmp_ne (pc := 838) 879 (by decide) dL_refuses_838 (fun h9 => absurd rfl h9) (fun _ => ?_)
  refine r_aload0 (pc := 841) dL_refuses_841 ?_
  refine n_iconst_1 (pc := 842) dL_refuses_842 ?_
  refine r_ldc2 (v := (1000000)) (pc := 843) (tG 999 (by decide +kernel) (by decide +kernel)) dL_refuses_843 ?_
  refine r_iload1 (pc := 846) dL_refuses_846 ?_
  refine r_i2l (pc := 847) dL_refuses_847 ?_
  refine r_ladd (pc := 848) dL_refuses_848 ?_
  refine r_callW3 (pc := 849) lkw_176 rfl dL_refuses_849 (s_scriptX b hT hO (scr_no (by omega))) (by decide) (Nat.le_of_ble_eq_true rfl) ⟨by decide, by decide⟩ (fun M9 h9 => ?_)
  obtain ⟨hT, hY⟩ := h9
  have hX : ∀ i, 328 ≤ i → M9 i = M i := fun i hi => (hY i hi).trans (hX i hi)
  clear hY
  refine r_ldc (v := -9999002) (pc := 852) (tG 410 (by decide +kernel) (by decide +kernel)) dL_refuses_852 ?_
  refine r_icmp_ne (pc := 854) 879 (by decide) dL_refuses_854 (fun h9 => absurd rfl h9) (fun _ => ?_)
  refine r_aload0 (pc := 857) dL_refuses_857 ?_
  refine r_iload1 (pc := 858) dL_refuses_858 ?_
  refine r_i2l (pc := 859) dL_refuses_859 ?_
  refine n_bipush (pc := 860) 31 (by decide) dL_refuses_860 ?_
  refine r_iload1 (pc := 862) dL_refuses_862 ?_
  refine n_bipush (pc := 863) 9 (by decide) dL_refuses_863 ?_
  refine n_irem (pc := 865) dL_refuses_865 (by omega) (by omega) (by omega) ?_
  first | refine n_iadd (pc := 866) dL_refuses_866 ?_ | refine z_iadd (pc := 866) dL_refuses_866 ?_ | refine r_iadd (pc := 866) dL_refuses_866 ?_
  refine r_callW3 (pc := 867) lkw_182 rfl dL_refuses_867 (s_simX b hT hO (inB_out (by omega) (Or.inr (by omega)))) (by decide) (Nat.le_of_ble_eq_true rfl) ⟨by decide, by decide⟩ (fun M9 h9 => ?_)
  obtain ⟨hT, hY⟩ := h9
  have hX : ∀ i, 328 ≤ i → M9 i = M i := fun i hi => (hY i hi).trans (hX i hi)
  clear hY
  refine r_ldc (v := -9999002) (pc := 870) (tG 410 (by decide +kernel) (by decide +kernel)) dL_refuses_870 ?_
  refine r_icmp_ne (pc := 872) 879 (by decide) dL_refuses_872 (fun h9 => absurd rfl h9) (fun _ => ?_)
  refine n_iconst_1 (pc := 875) dL_refuses_875 ?_
  refine r_goto (pc := 876) 880 (by decide) dL_refuses_876 ?_
  exact p_ireturn (pc := 880) false rfl rfl (by decide) dL_refuses_880 (by decide) (by decide) (Or.inl rfl) ⟨rfl, hT, hX⟩
set_option maxRecDepth 20000 in
theorem s_refuses_odd (b : Bool) {M : Mem} {W : Bool → WS} (hT : TW M W) (hO : WOK (W b)) {X : Nat} (hX0 : X < 100000) (hp : X % 2 = 1) : SpecP mL_refuses 11 60 360 [.ref (rb b), .int (nI X)] M (tK M W (nI 1)) := by
  have hZ := hO.z
  have hd := hZ.dims
  have hX : ∀ i, 328 ≤ i → M i = M i := fun _ _ => rfl
  have hmt : X % zt (wz (W b)) < zt (wz (W b)) := Nat.mod_lt _ (by omega)
  have hmc : X % zc (wz (W b)) < zc (wz (W b)) := Nat.mod_lt _ (by omega)
  have hmr : X % zr (wz (W b)) < zr (wz (W b)) := Nat.mod_lt _ (by omega)
  have hcol : (X % zr (wz (W b)) * zc (wz (W b)) + (zc (wz (W b)) - 1)) % zc (wz (W b)) = zc (wz (W b)) - 1 := by
    rw [Nat.mul_comm, Nat.mul_add_mod]
    exact Nat.mod_eq_of_lt (by omega)
  have hrow : (zr (wz (W b)) - 1) * zc (wz (W b)) + zc (wz (W b)) = zq (wz (W b)) := by
    rw [← Nat.succ_mul, Nat.succ_eq_add_one, Nat.sub_add_cancel (by omega), Nat.mul_comm]; rfl
  refine Spec_of [some (.ref (rb b)), some (.int (nI X)), none, none, none, none, none, none, none] (by decide) (Nat.le_of_ble_eq_true rfl) rfl ?_
  refine r_aload0 (pc := 0) dL_refuses_0 ?_
  refine n_iconst_2 (pc := 1) dL_refuses_1 ?_
  refine n_iconst_4 (pc := 2) dL_refuses_2 ?_
  refine n_iconst_0 (pc := 3) dL_refuses_3 ?_
  refine n_iconst_0 (pc := 4) dL_refuses_4 ?_
  refine r_call5 (pc := 5) rfl rfl dL_refuses_5 (s_ask b hT hO (by decide) q_ab4) (by decide) (Nat.le_of_ble_eq_true rfl) ⟨by decide, by decide⟩ (fun M9 h9 => ?_)
  obtain ⟨hT, hY⟩ := h9
  have hX : ∀ i, 328 ≤ i → M9 i = M i := fun i hi => (hY i hi).trans (hX i hi)
  clear hY
  refine r_istore2 (pc := 8) dL_refuses_8 rfl ?_
  refine r_aload0 (pc := 9) dL_refuses_9 ?_
  refine n_iconst_2 (pc := 10) dL_refuses_10 ?_
  refine n_iconst_2 (pc := 11) dL_refuses_11 ?_
  refine n_iconst_0 (pc := 12) dL_refuses_12 ?_
  refine n_iconst_0 (pc := 13) dL_refuses_13 ?_
  refine r_call5 (pc := 14) rfl rfl dL_refuses_14 (s_ask b hT hO (by decide) q_ab2) (by decide) (Nat.le_of_ble_eq_true rfl) ⟨by decide, by decide⟩ (fun M9 h9 => ?_)
  obtain ⟨hT, hY⟩ := h9
  have hX : ∀ i, 328 ≤ i → M9 i = M i := fun i hi => (hY i hi).trans (hX i hi)
  clear hY
  refine r_istore3 (pc := 17) dL_refuses_17 rfl ?_
  refine r_aload0 (pc := 18) dL_refuses_18 ?_
  refine n_iconst_2 (pc := 19) dL_refuses_19 ?_
  refine n_iconst_3 (pc := 20) dL_refuses_20 ?_
  refine n_iconst_0 (pc := 21) dL_refuses_21 ?_
  refine n_iconst_0 (pc := 22) dL_refuses_22 ?_
  refine r_call5 (pc := 23) rfl rfl dL_refuses_23 (s_ask b hT hO (by decide) q_ab3) (by decide) (Nat.le_of_ble_eq_true rfl) ⟨by decide, by decide⟩ (fun M9 h9 => ?_)
  obtain ⟨hT, hY⟩ := h9
  have hX : ∀ i, 328 ≤ i → M9 i = M i := fun i hi => (hY i hi).trans (hX i hi)
  clear hY
  refine r_istore4 (pc := 26) dL_refuses_26 rfl ?_
  refine r_iload1 (pc := 28) dL_refuses_28 ?_
  refine n_iconst_2 (pc := 29) dL_refuses_29 ?_
  refine n_irem (pc := 30) dL_refuses_30 (by omega) (by omega) (by omega) ?_
  refine n_if_ne (pc := 31) 43 (by decide) dL_refuses_31 (by omega) (fun hc31 => ?_) (fun hc31 => absurd hc31 (by omega))
  refine r_iload2 (pc := 43) dL_refuses_43 ?_
  refine r_iload1 (pc := 44) dL_refuses_44 ?_
  refine n_bipush (pc := 45) 99 (by decide) dL_refuses_45 ?_
  refine n_irem (pc := 47) dL_refuses_47 (by omega) (by omega) (by omega) ?_
  first | refine n_iadd (pc := 48) dL_refuses_48 ?_ | refine z_iadd (pc := 48) dL_refuses_48 ?_ | refine r_iadd (pc := 48) dL_refuses_48 ?_
  refine r_istore5 (pc := 49) dL_refuses_49 rfl ?_
  refine r_iload1 (pc := 51) dL_refuses_51 ?_
  refine n_iconst_2 (pc := 52) dL_refuses_52 ?_
  refine n_irem (pc := 53) dL_refuses_53 (by omega) (by omega) (by omega) ?_
  refine n_if_ne (pc := 54) 66 (by decide) dL_refuses_54 (by omega) (fun hc54 => ?_) (fun hc54 => absurd hc54 (by omega))
  refine r_iload3 (pc := 66) dL_refuses_66 ?_
  refine r_iload1 (pc := 67) dL_refuses_67 ?_
  refine n_bipush (pc := 68) 99 (by decide) dL_refuses_68 ?_
  refine n_irem (pc := 70) dL_refuses_70 (by omega) (by omega) (by omega) ?_
  first | refine n_iadd (pc := 71) dL_refuses_71 ?_ | refine z_iadd (pc := 71) dL_refuses_71 ?_ | refine r_iadd (pc := 71) dL_refuses_71 ?_
  refine r_istore6 (pc := 72) dL_refuses_72 rfl ?_
  refine r_iload1 (pc := 74) dL_refuses_74 ?_
  refine n_iconst_2 (pc := 75) dL_refuses_75 ?_
  refine n_irem (pc := 76) dL_refuses_76 (by omega) (by omega) (by omega) ?_
  refine n_if_ne (pc := 77) 89 (by decide) dL_refuses_77 (by omega) (fun hc77 => ?_) (fun hc77 => absurd hc77 (by omega))
  refine r_iload4 (pc := 89) dL_refuses_89 ?_
  refine r_iload1 (pc := 91) dL_refuses_91 ?_
  refine n_bipush (pc := 92) 99 (by decide) dL_refuses_92 ?_
  refine n_irem (pc := 94) dL_refuses_94 (by omega) (by omega) (by omega) ?_
  first | refine n_iadd (pc := 95) dL_refuses_95 ?_ | refine z_iadd (pc := 95) dL_refuses_95 ?_ | refine r_iadd (pc := 95) dL_refuses_95 ?_
  refine r_istore7 (pc := 96) dL_refuses_96 rfl ?_
  refine r_iload1 (pc := 98) dL_refuses_98 ?_
  refine n_iconst_2 (pc := 99) dL_refuses_99 ?_
  refine n_irem (pc := 100) dL_refuses_100 (by omega) (by omega) (by omega) ?_
  refine n_if_ne (pc := 101) 113 (by decide) dL_refuses_101 (by omega) (fun hc101 => ?_) (fun hc101 => absurd hc101 (by omega))
  refine n_bipush (pc := 113) 100 (by decide) dL_refuses_113 ?_
  refine r_iload1 (pc := 115) dL_refuses_115 ?_
  refine n_bipush (pc := 116) 99 (by decide) dL_refuses_116 ?_
  refine n_irem (pc := 118) dL_refuses_118 (by omega) (by omega) (by omega) ?_
  first | refine n_iadd (pc := 119) dL_refuses_119 ?_ | refine z_iadd (pc := 119) dL_refuses_119 ?_ | refine r_iadd (pc := 119) dL_refuses_119 ?_
  refine r_istore8 (pc := 120) dL_refuses_120 rfl ?_
  refine r_aload0 (pc := 122) dL_refuses_122 ?_
  refine n_iconst_0 (pc := 123) dL_refuses_123 ?_
  refine r_iload1 (pc := 124) dL_refuses_124 ?_
  refine n_iconst_2 (pc := 125) dL_refuses_125 ?_
  refine n_irem (pc := 126) dL_refuses_126 (by omega) (by omega) (by omega) ?_
  refine n_if_ne (pc := 127) 139 (by decide) dL_refuses_127 (by omega) (fun hc127 => ?_) (fun hc127 => absurd hc127 (by omega))
  refine n_sipush (pc := 139) 256 (by decide) dL_refuses_139 ?_
  refine r_iload1 (pc := 142) dL_refuses_142 ?_
  refine n_bipush (pc := 143) 9 (by decide) dL_refuses_143 ?_
  refine n_irem (pc := 145) dL_refuses_145 (by omega) (by omega) (by omega) ?_
  first | refine n_iadd (pc := 146) dL_refuses_146 ?_ | refine z_iadd (pc := 146) dL_refuses_146 ?_ | refine r_iadd (pc := 146) dL_refuses_146 ?_
  refine n_iconst_0 (pc := 147) dL_refuses_147 ?_
  refine n_iconst_0 (pc := 148) dL_refuses_148 ?_
  refine r_call5 (pc := 149) rfl rfl dL_refuses_149 (s_ask b hT hO (by decide) (x_append (inB_out (by omega) (Or.inr (by omega))))) (by decide) (Nat.le_of_ble_eq_true rfl) ⟨by decide, by decide⟩ (fun M9 h9 => ?_)
  obtain ⟨hT, hY⟩ := h9
  have hX : ∀ i, 328 ≤ i → M9 i = M i := fun i hi => (hY i hi).trans (hX i hi)
  clear hY
  refine r_ldc (v := -9999002) (pc := 152) (tG 410 (by decide +kernel) (by decide +kernel)) dL_refuses_152 ?_
  refine r_icmp_ne (pc := 154) 879 (by decide) dL_refuses_154 (fun h9 => absurd rfl h9) (fun _ => ?_)
  refine r_aload0 (pc := 157) dL_refuses_157 ?_
  refine n_iconst_2 (pc := 158) dL_refuses_158 ?_
  refine n_bipush (pc := 159) 11 (by decide) dL_refuses_159 ?_
  refine r_iload1 (pc := 161) dL_refuses_161 ?_
  refine n_bipush (pc := 162) 50 (by decide) dL_refuses_162 ?_
  refine n_irem (pc := 164) dL_refuses_164 (by omega) (by omega) (by omega) ?_
  first | refine n_iadd (pc := 165) dL_refuses_165 ?_ | refine z_iadd (pc := 165) dL_refuses_165 ?_ | refine r_iadd (pc := 165) dL_refuses_165 ?_
  refine n_iconst_0 (pc := 166) dL_refuses_166 ?_
  refine n_iconst_0 (pc := 167) dL_refuses_167 ?_
  refine r_call5 (pc := 168) rfl rfl dL_refuses_168 (s_ask b hT hO (by decide) (x_about (inR_big (by omega) (by omega)))) (by decide) (Nat.le_of_ble_eq_true rfl) ⟨by decide, by decide⟩ (fun M9 h9 => ?_)
  obtain ⟨hT, hY⟩ := h9
  have hX : ∀ i, 328 ≤ i → M9 i = M i := fun i hi => (hY i hi).trans (hX i hi)
  clear hY
  refine r_ldc (v := -9999002) (pc := 171) (tG 410 (by decide +kernel) (by decide +kernel)) dL_refuses_171 ?_
  refine r_icmp_ne (pc := 173) 879 (by decide) dL_refuses_173 (fun h9 => absurd rfl h9) (fun _ => ?_)
  refine r_aload0 (pc := 176) dL_refuses_176 ?_
  refine n_iconst_3 (pc := 177) dL_refuses_177 ?_
  refine r_iload6 (pc := 178) dL_refuses_178 ?_
  refine n_iconst_0 (pc := 180) dL_refuses_180 ?_
  refine n_bipush (pc := 181) 9 (by decide) dL_refuses_181 ?_
  refine r_call5 (pc := 183) rfl rfl dL_refuses_183 (s_ask b hT hO (by decide) (x_squareI (inQ_x (inR_big (by omega) (by omega))))) (by decide) (Nat.le_of_ble_eq_true rfl) ⟨by decide, by decide⟩ (fun M9 h9 => ?_)
  obtain ⟨hT, hY⟩ := h9
  have hX : ∀ i, 328 ≤ i → M9 i = M i := fun i hi => (hY i hi).trans (hX i hi)
  clear hY
  refine r_ldc (v := -9999001) (pc := 186) (tG 734 (by decide +kernel) (by decide +kernel)) dL_refuses_186 ?_
  refine r_icmp_ne (pc := 188) 879 (by decide) dL_refuses_188 (fun h9 => absurd rfl h9) (fun _ => ?_)
  refine r_aload0 (pc := 191) dL_refuses_191 ?_
  refine n_iconst_3 (pc := 192) dL_refuses_192 ?_
  refine n_iconst_0 (pc := 193) dL_refuses_193 ?_
  refine r_iload7 (pc := 194) dL_refuses_194 ?_
  refine n_bipush (pc := 196) 9 (by decide) dL_refuses_196 ?_
  refine r_call5 (pc := 198) rfl rfl dL_refuses_198 (s_ask b hT hO (by decide) (x_squareI (inQ_y (inR_big (by omega) (by omega))))) (by decide) (Nat.le_of_ble_eq_true rfl) ⟨by decide, by decide⟩ (fun M9 h9 => ?_)
  obtain ⟨hT, hY⟩ := h9
  have hX : ∀ i, 328 ≤ i → M9 i = M i := fun i hi => (hY i hi).trans (hX i hi)
  clear hY
  refine r_ldc (v := -9999001) (pc := 201) (tG 734 (by decide +kernel) (by decide +kernel)) dL_refuses_201 ?_
  refine r_icmp_ne (pc := 203) 879 (by decide) dL_refuses_203 (fun h9 => absurd rfl h9) (fun _ => ?_)
  refine r_aload0 (pc := 206) dL_refuses_206 ?_
  refine n_iconst_3 (pc := 207) dL_refuses_207 ?_
  refine r_iload1 (pc := 208) dL_refuses_208 ?_
  refine r_iload3 (pc := 209) dL_refuses_209 ?_
  refine n_irem (pc := 210) dL_refuses_210 (by omega) (by omega) (by omega) ?_
  refine r_iload1 (pc := 211) dL_refuses_211 ?_
  refine r_iload4 (pc := 212) dL_refuses_212 ?_
  refine n_irem (pc := 214) dL_refuses_214 (by omega) (by omega) (by omega) ?_
  refine n_iconst_5 (pc := 215) dL_refuses_215 ?_
  refine r_iload1 (pc := 216) dL_refuses_216 ?_
  refine n_bipush (pc := 217) 9 (by decide) dL_refuses_217 ?_
  refine n_irem (pc := 219) dL_refuses_219 (by omega) (by omega) (by omega) ?_
  first | refine n_iadd (pc := 220) dL_refuses_220 ?_ | refine z_iadd (pc := 220) dL_refuses_220 ?_ | refine r_iadd (pc := 220) dL_refuses_220 ?_
  refine r_call5 (pc := 221) rfl rfl dL_refuses_221 (s_ask b hT hO (by decide) (x_squareA (inQ_nI hZ (Nat.mod_lt _ (by omega)) (Nat.mod_lt _ (by omega))) (inR_big (by omega) (by omega)))) (by decide) (Nat.le_of_ble_eq_true rfl) ⟨by decide, by decide⟩ (fun M9 h9 => ?_)
  obtain ⟨hT, hY⟩ := h9
  have hX : ∀ i, 328 ≤ i → M9 i = M i := fun i hi => (hY i hi).trans (hX i hi)
  clear hY
  refine r_ldc (v := -9999002) (pc := 224) (tG 410 (by decide +kernel) (by decide +kernel)) dL_refuses_224 ?_
  refine r_icmp_ne (pc := 226) 879 (by decide) dL_refuses_226 (fun h9 => absurd rfl h9) (fun _ => ?_)
  refine r_aload0 (pc := 229) dL_refuses_229 ?_
  refine n_iconst_4 (pc := 230) dL_refuses_230 ?_
  refine r_iload5 (pc := 231) dL_refuses_231 ?_
  refine n_bipush (pc := 233) 99 (by decide) dL_refuses_233 ?_
  refine n_iconst_0 (pc := 235) dL_refuses_235 ?_
  refine r_call5 (pc := 236) rfl rfl dL_refuses_236 (s_ask b hT hO (by decide) (x_placeI (inR_big (by omega) (by omega)))) (by decide) (Nat.le_of_ble_eq_true rfl) ⟨by decide, by decide⟩ (fun M9 h9 => ?_)
  obtain ⟨hT, hY⟩ := h9
  have hX : ∀ i, 328 ≤ i → M9 i = M i := fun i hi => (hY i hi).trans (hX i hi)
  clear hY
  refine r_ldc (v := -9999001) (pc := 239) (tG 734 (by decide +kernel) (by decide +kernel)) dL_refuses_239 ?_
  refine r_icmp_ne (pc := 241) 879 (by decide) dL_refuses_241 (fun h9 => absurd rfl h9) (fun _ => ?_)
  refine r_aload0 (pc := 244) dL_refuses_244 ?_
  refine n_iconst_4 (pc := 245) dL_refuses_245 ?_
  refine r_iload1 (pc := 246) dL_refuses_246 ?_
  refine r_iload2 (pc := 247) dL_refuses_247 ?_
  refine n_irem (pc := 248) dL_refuses_248 (by omega) (by omega) (by omega) ?_
  refine n_bipush (pc := 249) 7 (by decide) dL_refuses_249 ?_
  refine r_iload1 (pc := 251) dL_refuses_251 ?_
  refine n_bipush (pc := 252) 9 (by decide) dL_refuses_252 ?_
  refine n_irem (pc := 254) dL_refuses_254 (by omega) (by omega) (by omega) ?_
  first | refine n_iadd (pc := 255) dL_refuses_255 ?_ | refine z_iadd (pc := 255) dL_refuses_255 ?_ | refine r_iadd (pc := 255) dL_refuses_255 ?_
  refine n_iconst_0 (pc := 256) dL_refuses_256 ?_
  refine r_call5 (pc := 257) rfl rfl dL_refuses_257 (s_ask b hT hO (by decide) (x_placeA (inR_in (Nat.mod_lt _ (by omega)) (by omega)) (inR_big (by omega) (by omega)))) (by decide) (Nat.le_of_ble_eq_true rfl) ⟨by decide, by decide⟩ (fun M9 h9 => ?_)
  obtain ⟨hT, hY⟩ := h9
  have hX : ∀ i, 328 ≤ i → M9 i = M i := fun i hi => (hY i hi).trans (hX i hi)
  clear hY
  refine r_ldc (v := -9999002) (pc := 260) (tG 410 (by decide +kernel) (by decide +kernel)) dL_refuses_260 ?_
  refine r_icmp_ne (pc := 262) 879 (by decide) dL_refuses_262 (fun h9 => absurd rfl h9) (fun _ => ?_)
  refine r_aload0 (pc := 265) dL_refuses_265 ?_
  refine n_iconst_5 (pc := 266) dL_refuses_266 ?_
  refine r_iload5 (pc := 267) dL_refuses_267 ?_
  refine n_bipush (pc := 269) 99 (by decide) dL_refuses_269 ?_
  refine n_iconst_0 (pc := 271) dL_refuses_271 ?_
  refine r_call5 (pc := 272) rfl rfl dL_refuses_272 (s_ask b hT hO (by decide) (x_tileI (inR_big (by omega) (by omega)))) (by decide) (Nat.le_of_ble_eq_true rfl) ⟨by decide, by decide⟩ (fun M9 h9 => ?_)
  obtain ⟨hT, hY⟩ := h9
  have hX : ∀ i, 328 ≤ i → M9 i = M i := fun i hi => (hY i hi).trans (hX i hi)
  clear hY
  refine r_ldc (v := -9999001) (pc := 275) (tG 734 (by decide +kernel) (by decide +kernel)) dL_refuses_275 ?_
  refine r_icmp_ne (pc := 277) 879 (by decide) dL_refuses_277 (fun h9 => absurd rfl h9) (fun _ => ?_)
  refine r_aload0 (pc := 280) dL_refuses_280 ?_
  refine n_iconst_5 (pc := 281) dL_refuses_281 ?_
  refine r_iload1 (pc := 282) dL_refuses_282 ?_
  refine r_iload2 (pc := 283) dL_refuses_283 ?_
  refine n_irem (pc := 284) dL_refuses_284 (by omega) (by omega) (by omega) ?_
  refine n_iconst_3 (pc := 285) dL_refuses_285 ?_
  refine r_iload1 (pc := 286) dL_refuses_286 ?_
  refine n_bipush (pc := 287) 9 (by decide) dL_refuses_287 ?_
  refine n_irem (pc := 289) dL_refuses_289 (by omega) (by omega) (by omega) ?_
  first | refine n_iadd (pc := 290) dL_refuses_290 ?_ | refine z_iadd (pc := 290) dL_refuses_290 ?_ | refine r_iadd (pc := 290) dL_refuses_290 ?_
  refine n_iconst_0 (pc := 291) dL_refuses_291 ?_
  refine r_call5 (pc := 292) rfl rfl dL_refuses_292 (s_ask b hT hO (by decide) (x_tileA (inR_in (Nat.mod_lt _ (by omega)) (by omega)) (inR_big (by omega) (by omega)))) (by decide) (Nat.le_of_ble_eq_true rfl) ⟨by decide, by decide⟩ (fun M9 h9 => ?_)
  obtain ⟨hT, hY⟩ := h9
  have hX : ∀ i, 328 ≤ i → M9 i = M i := fun i hi => (hY i hi).trans (hX i hi)
  clear hY
  refine r_ldc (v := -9999002) (pc := 295) (tG 410 (by decide +kernel) (by decide +kernel)) dL_refuses_295 ?_
  refine r_icmp_ne (pc := 297) 879 (by decide) dL_refuses_297 (fun h9 => absurd rfl h9) (fun _ => ?_)
  refine r_aload0 (pc := 300) dL_refuses_300 ?_
  refine n_bipush (pc := 301) 6 (by decide) dL_refuses_301 ?_
  refine r_iload1 (pc := 303) dL_refuses_303 ?_
  refine n_iconst_2 (pc := 304) dL_refuses_304 ?_
  refine n_irem (pc := 305) dL_refuses_305 (by omega) (by omega) (by omega) ?_
  refine n_if_ne (pc := 306) 313 (by decide) dL_refuses_306 (by omega) (fun hc306 => ?_) (fun hc306 => absurd hc306 (by omega))
  refine n_bipush (pc := 313) 7 (by decide) dL_refuses_313 ?_
  refine r_iload1 (pc := 315) dL_refuses_315 ?_
  refine n_bipush (pc := 316) 9 (by decide) dL_refuses_316 ?_
  refine n_irem (pc := 318) dL_refuses_318 (by omega) (by omega) (by omega) ?_
  first | refine n_iadd (pc := 319) dL_refuses_319 ?_ | refine z_iadd (pc := 319) dL_refuses_319 ?_ | refine r_iadd (pc := 319) dL_refuses_319 ?_
  refine n_iconst_1 (pc := 320) dL_refuses_320 ?_
  refine n_iconst_0 (pc := 321) dL_refuses_321 ?_
  refine r_call5 (pc := 322) rfl rfl dL_refuses_322 (s_ask b hT hO (by decide) (x_begin (Or.inl (inB_out (by omega) (Or.inr (by omega)))))) (by decide) (Nat.le_of_ble_eq_true rfl) ⟨by decide, by decide⟩ (fun M9 h9 => ?_)
  obtain ⟨hT, hY⟩ := h9
  have hX : ∀ i, 328 ≤ i → M9 i = M i := fun i hi => (hY i hi).trans (hX i hi)
  clear hY
  refine r_ldc (v := -9999002) (pc := 325) (tG 410 (by decide +kernel) (by decide +kernel)) dL_refuses_325 ?_
  refine r_icmp_ne (pc := 327) 879 (by decide) dL_refuses_327 (fun h9 => absurd rfl h9) (fun _ => ?_)
  refine r_aload0 (pc := 330) dL_refuses_330 ?_
  refine n_bipush (pc := 331) 6 (by decide) dL_refuses_331 ?_
  refine n_iconst_2 (pc := 333) dL_refuses_333 ?_
  refine r_iload1 (pc := 334) dL_refuses_334 ?_
  refine n_iconst_2 (pc := 335) dL_refuses_335 ?_
  refine n_irem (pc := 336) dL_refuses_336 (by omega) (by omega) (by omega) ?_
  refine n_if_ne (pc := 337) 344 (by decide) dL_refuses_337 (by omega) (fun hc337 => ?_) (fun hc337 => absurd hc337 (by omega))
  refine n_iconst_3 (pc := 344) dL_refuses_344 ?_
  refine r_iload1 (pc := 345) dL_refuses_345 ?_
  refine n_bipush (pc := 346) 9 (by decide) dL_refuses_346 ?_
  refine n_irem (pc := 348) dL_refuses_348 (by omega) (by omega) (by omega) ?_
  first | refine n_iadd (pc := 349) dL_refuses_349 ?_ | refine z_iadd (pc := 349) dL_refuses_349 ?_ | refine r_iadd (pc := 349) dL_refuses_349 ?_
  refine n_iconst_0 (pc := 350) dL_refuses_350 ?_
  refine r_call5 (pc := 351) rfl rfl dL_refuses_351 (s_ask b hT hO (by decide) (x_begin (Or.inr (inB_out (by omega) (Or.inr (by omega)))))) (by decide) (Nat.le_of_ble_eq_true rfl) ⟨by decide, by decide⟩ (fun M9 h9 => ?_)
  obtain ⟨hT, hY⟩ := h9
  have hX : ∀ i, 328 ≤ i → M9 i = M i := fun i hi => (hY i hi).trans (hX i hi)
  clear hY
  refine r_ldc (v := -9999002) (pc := 354) (tG 410 (by decide +kernel) (by decide +kernel)) dL_refuses_354 ?_
  refine r_icmp_ne (pc := 356) 879 (by decide) dL_refuses_356 (fun h9 => absurd rfl h9) (fun _ => ?_)
  refine r_aload0 (pc := 359) dL_refuses_359 ?_
  refine n_bipush (pc := 360) 7 (by decide) dL_refuses_360 ?_
  refine r_iload6 (pc := 362) dL_refuses_362 ?_
  refine n_iconst_0 (pc := 364) dL_refuses_364 ?_
  refine r_iload8 (pc := 365) dL_refuses_365 ?_
  refine r_call5 (pc := 367) rfl rfl dL_refuses_367 (s_ask b hT hO (by decide) (x_greyI (inQ_x (inR_big (by omega) (by omega))))) (by decide) (Nat.le_of_ble_eq_true rfl) ⟨by decide, by decide⟩ (fun M9 h9 => ?_)
  obtain ⟨hT, hY⟩ := h9
  have hX : ∀ i, 328 ≤ i → M9 i = M i := fun i hi => (hY i hi).trans (hX i hi)
  clear hY
  refine r_ldc (v := -9999001) (pc := 370) (tG 734 (by decide +kernel) (by decide +kernel)) dL_refuses_370 ?_
  refine r_icmp_ne (pc := 372) 879 (by decide) dL_refuses_372 (fun h9 => absurd rfl h9) (fun _ => ?_)
  refine r_aload0 (pc := 375) dL_refuses_375 ?_
  refine n_bipush (pc := 376) 7 (by decide) dL_refuses_376 ?_
  refine n_iconst_0 (pc := 378) dL_refuses_378 ?_
  refine r_iload7 (pc := 379) dL_refuses_379 ?_
  refine r_iload8 (pc := 381) dL_refuses_381 ?_
  refine r_call5 (pc := 383) rfl rfl dL_refuses_383 (s_ask b hT hO (by decide) (x_greyI (inQ_y (inR_big (by omega) (by omega))))) (by decide) (Nat.le_of_ble_eq_true rfl) ⟨by decide, by decide⟩ (fun M9 h9 => ?_)
  obtain ⟨hT, hY⟩ := h9
  have hX : ∀ i, 328 ≤ i → M9 i = M i := fun i hi => (hY i hi).trans (hX i hi)
  clear hY
  refine r_ldc (v := -9999001) (pc := 386) (tG 734 (by decide +kernel) (by decide +kernel)) dL_refuses_386 ?_
  refine r_icmp_ne (pc := 388) 879 (by decide) dL_refuses_388 (fun h9 => absurd rfl h9) (fun _ => ?_)
  refine r_aload0 (pc := 391) dL_refuses_391 ?_
  refine n_bipush (pc := 392) 7 (by decide) dL_refuses_392 ?_
  refine r_iload1 (pc := 394) dL_refuses_394 ?_
  refine r_iload3 (pc := 395) dL_refuses_395 ?_
  refine n_irem (pc := 396) dL_refuses_396 (by omega) (by omega) (by omega) ?_
  refine r_iload1 (pc := 397) dL_refuses_397 ?_
  refine r_iload4 (pc := 398) dL_refuses_398 ?_
  refine n_irem (pc := 400) dL_refuses_400 (by omega) (by omega) (by omega) ?_
  refine r_iload8 (pc := 401) dL_refuses_401 ?_
  refine r_call5 (pc := 403) rfl rfl dL_refuses_403 (s_ask b hT hO (by decide) (x_greyA (inQ_nI hZ (Nat.mod_lt _ (by omega)) (Nat.mod_lt _ (by omega))) (inB_out (by omega) (Or.inr (by omega))))) (by decide) (Nat.le_of_ble_eq_true rfl) ⟨by decide, by decide⟩ (fun M9 h9 => ?_)
  obtain ⟨hT, hY⟩ := h9
  have hX : ∀ i, 328 ≤ i → M9 i = M i := fun i hi => (hY i hi).trans (hX i hi)
  clear hY
  refine r_ldc (v := -9999002) (pc := 406) (tG 410 (by decide +kernel) (by decide +kernel)) dL_refuses_406 ?_
  refine r_icmp_ne (pc := 408) 879 (by decide) dL_refuses_408 (fun h9 => absurd rfl h9) (fun _ => ?_)
  refine r_aload0 (pc := 411) dL_refuses_411 ?_
  refine n_bipush (pc := 412) 8 (by decide) dL_refuses_412 ?_
  refine r_iload8 (pc := 414) dL_refuses_414 ?_
  refine n_iconst_0 (pc := 416) dL_refuses_416 ?_
  refine n_iconst_0 (pc := 417) dL_refuses_417 ?_
  refine r_call5 (pc := 418) rfl rfl dL_refuses_418 (s_ask b hT hO (by decide) (x_fade (Or.inl (inB_out (by omega) (Or.inr (by omega)))))) (by decide) (Nat.le_of_ble_eq_true rfl) ⟨by decide, by decide⟩ (fun M9 h9 => ?_)
  obtain ⟨hT, hY⟩ := h9
  have hX : ∀ i, 328 ≤ i → M9 i = M i := fun i hi => (hY i hi).trans (hX i hi)
  clear hY
  refine r_ldc (v := -9999002) (pc := 421) (tG 410 (by decide +kernel) (by decide +kernel)) dL_refuses_421 ?_
  refine r_icmp_ne (pc := 423) 879 (by decide) dL_refuses_423 (fun h9 => absurd rfl h9) (fun _ => ?_)
  refine r_aload0 (pc := 426) dL_refuses_426 ?_
  refine n_bipush (pc := 427) 8 (by decide) dL_refuses_427 ?_
  refine n_iconst_0 (pc := 429) dL_refuses_429 ?_
  refine r_iload8 (pc := 430) dL_refuses_430 ?_
  refine n_iconst_0 (pc := 432) dL_refuses_432 ?_
  refine r_call5 (pc := 433) rfl rfl dL_refuses_433 (s_ask b hT hO (by decide) (x_fade (Or.inr (inB_out (by omega) (Or.inr (by omega)))))) (by decide) (Nat.le_of_ble_eq_true rfl) ⟨by decide, by decide⟩ (fun M9 h9 => ?_)
  obtain ⟨hT, hY⟩ := h9
  have hX : ∀ i, 328 ≤ i → M9 i = M i := fun i hi => (hY i hi).trans (hX i hi)
  clear hY
  refine r_ldc (v := -9999002) (pc := 436) (tG 410 (by decide +kernel) (by decide +kernel)) dL_refuses_436 ?_
  refine r_icmp_ne (pc := 438) 879 (by decide) dL_refuses_438 (fun h9 => absurd rfl h9) (fun _ => ?_)
  refine r_aload0 (pc := 441) dL_refuses_441 ?_
  refine n_bipush (pc := 442) 9 (by decide) dL_refuses_442 ?_
  refine r_iload5 (pc := 444) dL_refuses_444 ?_
  refine n_iconst_0 (pc := 446) dL_refuses_446 ?_
  refine n_iconst_0 (pc := 447) dL_refuses_447 ?_
  refine r_call5 (pc := 448) rfl rfl dL_refuses_448 (s_ask b hT hO (by decide) (x_turn (inR_big (by omega) (by omega)))) (by decide) (Nat.le_of_ble_eq_true rfl) ⟨by decide, by decide⟩ (fun M9 h9 => ?_)
  obtain ⟨hT, hY⟩ := h9
  have hX : ∀ i, 328 ≤ i → M9 i = M i := fun i hi => (hY i hi).trans (hX i hi)
  clear hY
  refine r_ldc (v := -9999001) (pc := 451) (tG 734 (by decide +kernel) (by decide +kernel)) dL_refuses_451 ?_
  refine r_icmp_ne (pc := 453) 879 (by decide) dL_refuses_453 (fun h9 => absurd rfl h9) (fun _ => ?_)
  refine r_aload0 (pc := 456) dL_refuses_456 ?_
  refine n_bipush (pc := 457) 10 (by decide) dL_refuses_457 ?_
  refine r_iload5 (pc := 459) dL_refuses_459 ?_
  refine r_iload5 (pc := 461) dL_refuses_461 ?_
  refine n_iconst_0 (pc := 463) dL_refuses_463 ?_
  refine r_call5 (pc := 464) rfl rfl dL_refuses_464 (s_ask b hT hO (by decide) (x_swapI (Or.inl (inR_big (by omega) (by omega))))) (by decide) (Nat.le_of_ble_eq_true rfl) ⟨by decide, by decide⟩ (fun M9 h9 => ?_)
  obtain ⟨hT, hY⟩ := h9
  have hX : ∀ i, 328 ≤ i → M9 i = M i := fun i hi => (hY i hi).trans (hX i hi)
  clear hY
  refine r_ldc (v := -9999001) (pc := 467) (tG 734 (by decide +kernel) (by decide +kernel)) dL_refuses_467 ?_
  refine r_icmp_ne (pc := 469) 879 (by decide) dL_refuses_469 (fun h9 => absurd rfl h9) (fun _ => ?_)
  refine r_aload0 (pc := 472) dL_refuses_472 ?_
  refine n_bipush (pc := 473) 10 (by decide) dL_refuses_473 ?_
  refine r_iload1 (pc := 475) dL_refuses_475 ?_
  refine r_iload2 (pc := 476) dL_refuses_476 ?_
  refine n_irem (pc := 477) dL_refuses_477 (by omega) (by omega) (by omega) ?_
  refine r_iload1 (pc := 478) dL_refuses_478 ?_
  refine r_iload2 (pc := 479) dL_refuses_479 ?_
  refine n_irem (pc := 480) dL_refuses_480 (by omega) (by omega) (by omega) ?_
  refine n_iconst_0 (pc := 481) dL_refuses_481 ?_
  refine r_call5 (pc := 482) rfl rfl dL_refuses_482 (s_ask b hT hO (by decide) (x_swapA (inR_in (Nat.mod_lt _ (by omega)) (by omega)))) (by decide) (Nat.le_of_ble_eq_true rfl) ⟨by decide, by decide⟩ (fun M9 h9 => ?_)
  obtain ⟨hT, hY⟩ := h9
  have hX : ∀ i, 328 ≤ i → M9 i = M i := fun i hi => (hY i hi).trans (hX i hi)
  clear hY
  refine r_ldc (v := -9999002) (pc := 485) (tG 410 (by decide +kernel) (by decide +kernel)) dL_refuses_485 ?_
  refine r_icmp_ne (pc := 487) 879 (by decide) dL_refuses_487 (fun h9 => absurd rfl h9) (fun _ => ?_)
  refine r_aload0 (pc := 490) dL_refuses_490 ?_
  refine n_bipush (pc := 491) 10 (by decide) dL_refuses_491 ?_
  refine n_iconst_0 (pc := 493) dL_refuses_493 ?_
  refine r_iload5 (pc := 494) dL_refuses_494 ?_
  refine n_iconst_0 (pc := 496) dL_refuses_496 ?_
  refine r_call5 (pc := 497) rfl rfl dL_refuses_497 (s_ask b hT hO (by decide) (x_swapI (Or.inr (inR_big (by omega) (by omega))))) (by decide) (Nat.le_of_ble_eq_true rfl) ⟨by decide, by decide⟩ (fun M9 h9 => ?_)
  obtain ⟨hT, hY⟩ := h9
  have hX : ∀ i, 328 ≤ i → M9 i = M i := fun i hi => (hY i hi).trans (hX i hi)
  clear hY
  refine r_ldc (v := -9999001) (pc := 500) (tG 734 (by decide +kernel) (by decide +kernel)) dL_refuses_500 ?_
  refine r_icmp_ne (pc := 502) 879 (by decide) dL_refuses_502 (fun h9 => absurd rfl h9) (fun _ => ?_)
  refine r_aload0 (pc := 505) dL_refuses_505 ?_
  refine n_bipush (pc := 506) 11 (by decide) dL_refuses_506 ?_
  refine r_iload6 (pc := 508) dL_refuses_508 ?_
  refine n_iconst_0 (pc := 510) dL_refuses_510 ?_
  refine n_iconst_0 (pc := 511) dL_refuses_511 ?_
  refine r_call5 (pc := 512) rfl rfl dL_refuses_512 (s_ask b hT hO (by decide) (x_flipI (inQ_x (inR_big (by omega) (by omega))))) (by decide) (Nat.le_of_ble_eq_true rfl) ⟨by decide, by decide⟩ (fun M9 h9 => ?_)
  obtain ⟨hT, hY⟩ := h9
  have hX : ∀ i, 328 ≤ i → M9 i = M i := fun i hi => (hY i hi).trans (hX i hi)
  clear hY
  refine r_ldc (v := -9999001) (pc := 515) (tG 734 (by decide +kernel) (by decide +kernel)) dL_refuses_515 ?_
  refine r_icmp_ne (pc := 517) 879 (by decide) dL_refuses_517 (fun h9 => absurd rfl h9) (fun _ => ?_)
  refine r_aload0 (pc := 520) dL_refuses_520 ?_
  refine n_bipush (pc := 521) 11 (by decide) dL_refuses_521 ?_
  refine n_iconst_0 (pc := 523) dL_refuses_523 ?_
  refine r_iload7 (pc := 524) dL_refuses_524 ?_
  refine n_iconst_0 (pc := 526) dL_refuses_526 ?_
  refine r_call5 (pc := 527) rfl rfl dL_refuses_527 (s_ask b hT hO (by decide) (x_flipI (inQ_y (inR_big (by omega) (by omega))))) (by decide) (Nat.le_of_ble_eq_true rfl) ⟨by decide, by decide⟩ (fun M9 h9 => ?_)
  obtain ⟨hT, hY⟩ := h9
  have hX : ∀ i, 328 ≤ i → M9 i = M i := fun i hi => (hY i hi).trans (hX i hi)
  clear hY
  refine r_ldc (v := -9999001) (pc := 530) (tG 734 (by decide +kernel) (by decide +kernel)) dL_refuses_530 ?_
  refine r_icmp_ne (pc := 532) 879 (by decide) dL_refuses_532 (fun h9 => absurd rfl h9) (fun _ => ?_)
  refine r_aload0 (pc := 535) dL_refuses_535 ?_
  refine n_bipush (pc := 536) 11 (by decide) dL_refuses_536 ?_
  refine r_iload3 (pc := 538) dL_refuses_538 ?_
  refine n_iconst_1 (pc := 539) dL_refuses_539 ?_
  refine n_isub (pc := 540) dL_refuses_540 (by omega) ?_
  refine r_iload1 (pc := 541) dL_refuses_541 ?_
  refine r_iload4 (pc := 542) dL_refuses_542 ?_
  refine n_irem (pc := 544) dL_refuses_544 (by omega) (by omega) (by omega) ?_
  refine n_iconst_0 (pc := 545) dL_refuses_545 ?_
  refine r_call5 (pc := 546) rfl rfl dL_refuses_546 (s_ask b hT hO (by decide) (x_flipS hO (by omega) (Nat.mod_lt _ (by omega)) (can_col hZ hcol))) (by decide) (Nat.le_of_ble_eq_true rfl) ⟨by decide, by decide⟩ (fun M9 h9 => ?_)
  obtain ⟨hT, hY⟩ := h9
  have hX : ∀ i, 328 ≤ i → M9 i = M i := fun i hi => (hY i hi).trans (hX i hi)
  clear hY
  refine r_ldc (v := -9999003) (pc := 549) (tG 411 (by decide +kernel) (by decide +kernel)) dL_refuses_549 ?_
  refine r_icmp_ne (pc := 551) 879 (by decide) dL_refuses_551 (fun h9 => absurd rfl h9) (fun _ => ?_)
  refine r_aload0 (pc := 554) dL_refuses_554 ?_
  refine n_bipush (pc := 555) 11 (by decide) dL_refuses_555 ?_
  refine r_iload1 (pc := 557) dL_refuses_557 ?_
  refine r_iload3 (pc := 558) dL_refuses_558 ?_
  refine n_irem (pc := 559) dL_refuses_559 (by omega) (by omega) (by omega) ?_
  refine r_iload4 (pc := 560) dL_refuses_560 ?_
  refine n_iconst_1 (pc := 562) dL_refuses_562 ?_
  refine n_isub (pc := 563) dL_refuses_563 (by omega) ?_
  refine n_iconst_0 (pc := 564) dL_refuses_564 ?_
  refine r_call5 (pc := 565) rfl rfl dL_refuses_565 (s_ask b hT hO (by decide) (x_flipS hO (Nat.mod_lt _ (by omega)) (by omega) (can_row hZ (by omega)))) (by decide) (Nat.le_of_ble_eq_true rfl) ⟨by decide, by decide⟩ (fun M9 h9 => ?_)
  obtain ⟨hT, hY⟩ := h9
  have hX : ∀ i, 328 ≤ i → M9 i = M i := fun i hi => (hY i hi).trans (hX i hi)
  clear hY
  refine r_ldc (v := -9999003) (pc := 568) (tG 411 (by decide +kernel) (by decide +kernel)) dL_refuses_568 ?_
  refine r_icmp_ne (pc := 570) 879 (by decide) dL_refuses_570 (fun h9 => absurd rfl h9) (fun _ => ?_)
  refine r_aload0 (pc := 573) dL_refuses_573 ?_
  refine r_iload5 (pc := 574) dL_refuses_574 ?_
  refine n_iconst_1 (pc := 576) dL_refuses_576 ?_
  refine r_callW3 (pc := 577) lkw_172 rfl dL_refuses_577 (s_holdsX b hT hO (inR_big (by omega) (by omega))) (by decide) (Nat.le_of_ble_eq_true rfl) ⟨by decide, by decide⟩ (fun M9 h9 => ?_)
  obtain ⟨hT, hY⟩ := h9
  have hX : ∀ i, 328 ≤ i → M9 i = M i := fun i hi => (hY i hi).trans (hX i hi)
  clear hY
  refine r_ldc (v := -9999001) (pc := 580) (tG 734 (by decide +kernel) (by decide +kernel)) dL_refuses_580 ?_
  refine r_icmp_ne (pc := 582) 879 (by decide) dL_refuses_582 (fun h9 => absurd rfl h9) (fun _ => ?_)
  refine r_aload0 (pc := 585) dL_refuses_585 ?_
  refine n_bipush (pc := 586) 12 (by decide) dL_refuses_586 ?_
  refine r_iload1 (pc := 588) dL_refuses_588 ?_
  refine n_iconst_2 (pc := 589) dL_refuses_589 ?_
  refine n_irem (pc := 590) dL_refuses_590 (by omega) (by omega) (by omega) ?_
  refine n_if_ne (pc := 591) 598 (by decide) dL_refuses_591 (by omega) (fun hc591 => ?_) (fun hc591 => absurd hc591 (by omega))
  refine n_bipush (pc := 598) 21 (by decide) dL_refuses_598 ?_
  refine r_iload1 (pc := 600) dL_refuses_600 ?_
  refine n_bipush (pc := 601) 9 (by decide) dL_refuses_601 ?_
  refine n_irem (pc := 603) dL_refuses_603 (by omega) (by omega) (by omega) ?_
  first | refine n_iadd (pc := 604) dL_refuses_604 ?_ | refine z_iadd (pc := 604) dL_refuses_604 ?_ | refine r_iadd (pc := 604) dL_refuses_604 ?_
  refine n_iconst_0 (pc := 605) dL_refuses_605 ?_
  refine n_iconst_0 (pc := 606) dL_refuses_606 ?_
  refine r_call5 (pc := 607) rfl rfl dL_refuses_607 (s_ask b hT hO (by decide) (x_improve (inB_out (by omega) (Or.inr (by omega))))) (by decide) (Nat.le_of_ble_eq_true rfl) ⟨by decide, by decide⟩ (fun M9 h9 => ?_)
  obtain ⟨hT, hY⟩ := h9
  have hX : ∀ i, 328 ≤ i → M9 i = M i := fun i hi => (hY i hi).trans (hX i hi)
  clear hY
  refine r_ldc (v := -9999002) (pc := 610) (tG 410 (by decide +kernel) (by decide +kernel)) dL_refuses_610 ?_
  refine r_icmp_ne (pc := 612) 879 (by decide) dL_refuses_612 (fun h9 => absurd rfl h9) (fun _ => ?_)
  refine r_aload0 (pc := 615) dL_refuses_615 ?_
  refine n_bipush (pc := 616) 14 (by decide) dL_refuses_616 ?_
  refine r_iload1 (pc := 618) dL_refuses_618 ?_
  refine n_iconst_2 (pc := 619) dL_refuses_619 ?_
  refine n_irem (pc := 620) dL_refuses_620 (by omega) (by omega) (by omega) ?_
  refine n_if_ne (pc := 621) 633 (by decide) dL_refuses_621 (by omega) (fun hc621 => ?_) (fun hc621 => absurd hc621 (by omega))
  refine n_sipush (pc := 633) 30000 (by decide) dL_refuses_633 ?_
  refine r_iload1 (pc := 636) dL_refuses_636 ?_
  refine n_bipush (pc := 637) 99 (by decide) dL_refuses_637 ?_
  refine n_irem (pc := 639) dL_refuses_639 (by omega) (by omega) (by omega) ?_
  first | refine n_iadd (pc := 640) dL_refuses_640 ?_ | refine z_iadd (pc := 640) dL_refuses_640 ?_ | refine r_iadd (pc := 640) dL_refuses_640 ?_
  refine n_iconst_0 (pc := 641) dL_refuses_641 ?_
  refine n_iconst_0 (pc := 642) dL_refuses_642 ?_
  refine r_call5 (pc := 643) rfl rfl dL_refuses_643 (s_ask b hT hO (by decide) (x_gain (inR_big (by omega) (by omega)))) (by decide) (Nat.le_of_ble_eq_true rfl) ⟨by decide, by decide⟩ (fun M9 h9 => ?_)
  obtain ⟨hT, hY⟩ := h9
  have hX : ∀ i, 328 ≤ i → M9 i = M i := fun i hi => (hY i hi).trans (hX i hi)
  clear hY
  refine r_ldc (v := -9999002) (pc := 646) (tG 410 (by decide +kernel) (by decide +kernel)) dL_refuses_646 ?_
  refine r_icmp_ne (pc := 648) 879 (by decide) dL_refuses_648 (fun h9 => absurd rfl h9) (fun _ => ?_)
  refine r_aload0 (pc := 651) dL_refuses_651 ?_
  refine n_bipush (pc := 652) 14 (by decide) dL_refuses_652 ?_
  refine r_iload2 (pc := 654) dL_refuses_654 ?_
  refine r_iload1 (pc := 655) dL_refuses_655 ?_
  refine n_sipush (pc := 656) 900 (by decide) dL_refuses_656 ?_
  refine n_irem (pc := 659) dL_refuses_659 (by omega) (by omega) (by omega) ?_
  first | refine n_iadd (pc := 660) dL_refuses_660 ?_ | refine z_iadd (pc := 660) dL_refuses_660 ?_ | refine r_iadd (pc := 660) dL_refuses_660 ?_
  refine n_iconst_0 (pc := 661) dL_refuses_661 ?_
  refine n_iconst_0 (pc := 662) dL_refuses_662 ?_
  refine r_call5 (pc := 663) rfl rfl dL_refuses_663 (s_ask b hT hO (by decide) (x_gainP (by omega) (pos_noT (by omega) (by omega)))) (by decide) (Nat.le_of_ble_eq_true rfl) ⟨by decide, by decide⟩ (fun M9 h9 => ?_)
  obtain ⟨hT, hY⟩ := h9
  have hX : ∀ i, 328 ≤ i → M9 i = M i := fun i hi => (hY i hi).trans (hX i hi)
  clear hY
  refine r_ldc (v := -9999002) (pc := 666) (tG 410 (by decide +kernel) (by decide +kernel)) dL_refuses_666 ?_
  refine r_icmp_ne (pc := 668) 879 (by decide) dL_refuses_668 (fun h9 => absurd rfl h9) (fun _ => ?_)
  refine r_aload0 (pc := 671) dL_refuses_671 ?_
  refine n_bipush (pc := 672) 14 (by decide) dL_refuses_672 ?_
  refine n_sipush (pc := 674) 10000 (by decide) dL_refuses_674 ?_
  refine n_bipush (pc := 677) 101 (by decide) dL_refuses_677 ?_
  refine r_iload1 (pc := 679) dL_refuses_679 ?_
  refine r_iload2 (pc := 680) dL_refuses_680 ?_
  refine n_irem (pc := 681) dL_refuses_681 (by omega) (by omega) (by omega) ?_
  first | refine n_imul (pc := 682) dL_refuses_682 ?_ | refine z_imul (pc := 682) dL_refuses_682 ?_ | refine r_imul (pc := 682) dL_refuses_682 ?_
  first | refine n_iadd (pc := 683) dL_refuses_683 ?_ | refine z_iadd (pc := 683) dL_refuses_683 ?_ | refine r_iadd (pc := 683) dL_refuses_683 ?_
  refine n_iconst_0 (pc := 684) dL_refuses_684 ?_
  refine n_iconst_0 (pc := 685) dL_refuses_685 ?_
  refine r_call5 (pc := 686) rfl rfl dL_refuses_686 (s_ask b hT hO (by decide) (x_gainP (by omega) (pos_noS (by omega)))) (by decide) (Nat.le_of_ble_eq_true rfl) ⟨by decide, by decide⟩ (fun M9 h9 => ?_)
  obtain ⟨hT, hY⟩ := h9
  have hX : ∀ i, 328 ≤ i → M9 i = M i := fun i hi => (hY i hi).trans (hX i hi)
  clear hY
  refine r_ldc (v := -9999002) (pc := 689) (tG 410 (by decide +kernel) (by decide +kernel)) dL_refuses_689 ?_
  refine r_icmp_ne (pc := 691) 879 (by decide) dL_refuses_691 (fun h9 => absurd rfl h9) (fun _ => ?_)
  refine r_aload0 (pc := 694) dL_refuses_694 ?_
  refine n_bipush (pc := 695) 15 (by decide) dL_refuses_695 ?_
  refine n_iconst_2 (pc := 697) dL_refuses_697 ?_
  refine r_iload1 (pc := 698) dL_refuses_698 ?_
  refine n_bipush (pc := 699) 9 (by decide) dL_refuses_699 ?_
  refine n_irem (pc := 701) dL_refuses_701 (by omega) (by omega) (by omega) ?_
  first | refine n_iadd (pc := 702) dL_refuses_702 ?_ | refine z_iadd (pc := 702) dL_refuses_702 ?_ | refine r_iadd (pc := 702) dL_refuses_702 ?_
  refine n_iconst_0 (pc := 703) dL_refuses_703 ?_
  refine n_iconst_0 (pc := 704) dL_refuses_704 ?_
  refine r_call5 (pc := 705) rfl rfl dL_refuses_705 (s_ask b hT hO (by decide) (x_best (inR_big (by omega) (by omega)))) (by decide) (Nat.le_of_ble_eq_true rfl) ⟨by decide, by decide⟩ (fun M9 h9 => ?_)
  obtain ⟨hT, hY⟩ := h9
  have hX : ∀ i, 328 ≤ i → M9 i = M i := fun i hi => (hY i hi).trans (hX i hi)
  clear hY
  refine r_ldc (v := -9999002) (pc := 708) (tG 410 (by decide +kernel) (by decide +kernel)) dL_refuses_708 ?_
  refine r_icmp_ne (pc := 710) 879 (by decide) dL_refuses_710 (fun h9 => absurd rfl h9) (fun _ => ?_)
  refine r_aload0 (pc := 713) dL_refuses_713 ?_
  refine n_bipush (pc := 714) 16 (by decide) dL_refuses_714 ?_
  refine r_iload1 (pc := 716) dL_refuses_716 ?_
  refine n_iconst_2 (pc := 717) dL_refuses_717 ?_
  refine n_irem (pc := 718) dL_refuses_718 (by omega) (by omega) (by omega) ?_
  refine n_if_ne (pc := 719) 726 (by decide) dL_refuses_719 (by omega) (fun hc719 => ?_) (fun hc719 => absurd hc719 (by omega))
  refine n_bipush (pc := 726) 21 (by decide) dL_refuses_726 ?_
  refine r_iload1 (pc := 728) dL_refuses_728 ?_
  refine n_bipush (pc := 729) 9 (by decide) dL_refuses_729 ?_
  refine n_irem (pc := 731) dL_refuses_731 (by omega) (by omega) (by omega) ?_
  first | refine n_iadd (pc := 732) dL_refuses_732 ?_ | refine z_iadd (pc := 732) dL_refuses_732 ?_ | refine r_iadd (pc := 732) dL_refuses_732 ?_
  refine n_iconst_0 (pc := 733) dL_refuses_733 ?_
  refine n_iconst_0 (pc := 734) dL_refuses_734 ?_
  refine r_call5 (pc := 735) rfl rfl dL_refuses_735 (s_ask b hT hO (by decide) (x_if (Or.inl (inB_out (by omega) (Or.inr (by omega)))))) (by decide) (Nat.le_of_ble_eq_true rfl) ⟨by decide, by decide⟩ (fun M9 h9 => ?_)
  obtain ⟨hT, hY⟩ := h9
  have hX : ∀ i, 328 ≤ i → M9 i = M i := fun i hi => (hY i hi).trans (hX i hi)
  clear hY
  refine r_ldc (v := -9999002) (pc := 738) (tG 410 (by decide +kernel) (by decide +kernel)) dL_refuses_738 ?_
  refine r_icmp_ne (pc := 740) 879 (by decide) dL_refuses_740 (fun h9 => absurd rfl h9) (fun _ => ?_)
  refine r_aload0 (pc := 743) dL_refuses_743 ?_
  refine n_bipush (pc := 744) 16 (by decide) dL_refuses_744 ?_
  refine n_iconst_1 (pc := 746) dL_refuses_746 ?_
  refine n_iconst_2 (pc := 747) dL_refuses_747 ?_
  refine r_iload1 (pc := 748) dL_refuses_748 ?_
  refine n_bipush (pc := 749) 9 (by decide) dL_refuses_749 ?_
  refine n_irem (pc := 751) dL_refuses_751 (by omega) (by omega) (by omega) ?_
  first | refine n_iadd (pc := 752) dL_refuses_752 ?_ | refine z_iadd (pc := 752) dL_refuses_752 ?_ | refine r_iadd (pc := 752) dL_refuses_752 ?_
  refine n_iconst_0 (pc := 753) dL_refuses_753 ?_
  refine r_call5 (pc := 754) rfl rfl dL_refuses_754 (s_ask b hT hO (by decide) (x_if (Or.inr (inR_big (by omega) (by omega))))) (by decide) (Nat.le_of_ble_eq_true rfl) ⟨by decide, by decide⟩ (fun M9 h9 => ?_)
  obtain ⟨hT, hY⟩ := h9
  have hX : ∀ i, 328 ≤ i → M9 i = M i := fun i hi => (hY i hi).trans (hX i hi)
  clear hY
  refine r_ldc (v := -9999002) (pc := 757) (tG 410 (by decide +kernel) (by decide +kernel)) dL_refuses_757 ?_
  refine r_icmp_ne (pc := 759) 879 (by decide) dL_refuses_759 (fun h9 => absurd rfl h9) (fun _ => ?_)
  refine r_aload0 (pc := 762) dL_refuses_762 ?_
  refine n_bipush (pc := 763) 17 (by decide) dL_refuses_763 ?_
  refine r_iload5 (pc := 765) dL_refuses_765 ?_
  refine n_iconst_0 (pc := 767) dL_refuses_767 ?_
  refine n_iconst_0 (pc := 768) dL_refuses_768 ?_
  refine r_call5 (pc := 769) rfl rfl dL_refuses_769 (s_ask b hT hO (by decide) (x_worst (inR_big (by omega) (by omega)))) (by decide) (Nat.le_of_ble_eq_true rfl) ⟨by decide, by decide⟩ (fun M9 h9 => ?_)
  obtain ⟨hT, hY⟩ := h9
  have hX : ∀ i, 328 ≤ i → M9 i = M i := fun i hi => (hY i hi).trans (hX i hi)
  clear hY
  refine r_ldc (v := -9999001) (pc := 772) (tG 734 (by decide +kernel) (by decide +kernel)) dL_refuses_772 ?_
  refine r_icmp_ne (pc := 774) 879 (by decide) dL_refuses_774 (fun h9 => absurd rfl h9) (fun _ => ?_)
  refine r_aload0 (pc := 777) dL_refuses_777 ?_
  refine n_bipush (pc := 778) 18 (by decide) dL_refuses_778 ?_
  refine r_iload5 (pc := 780) dL_refuses_780 ?_
  refine n_iconst_0 (pc := 782) dL_refuses_782 ?_
  refine n_iconst_0 (pc := 783) dL_refuses_783 ?_
  refine r_call5 (pc := 784) rfl rfl dL_refuses_784 (s_ask b hT hO (by decide) (x_fits (inR_big (by omega) (by omega)))) (by decide) (Nat.le_of_ble_eq_true rfl) ⟨by decide, by decide⟩ (fun M9 h9 => ?_)
  obtain ⟨hT, hY⟩ := h9
  have hX : ∀ i, 328 ≤ i → M9 i = M i := fun i hi => (hY i hi).trans (hX i hi)
  clear hY
  refine r_ldc (v := -9999001) (pc := 787) (tG 734 (by decide +kernel) (by decide +kernel)) dL_refuses_787 ?_
  refine r_icmp_ne (pc := 789) 879 (by decide) dL_refuses_789 (fun h9 => absurd rfl h9) (fun _ => ?_)
  refine r_aload0 (pc := 792) dL_refuses_792 ?_
  refine n_bipush (pc := 793) 19 (by decide) dL_refuses_793 ?_
  refine n_iconst_2 (pc := 795) dL_refuses_795 ?_
  refine r_iload1 (pc := 796) dL_refuses_796 ?_
  refine n_bipush (pc := 797) 50 (by decide) dL_refuses_797 ?_
  refine n_irem (pc := 799) dL_refuses_799 (by omega) (by omega) (by omega) ?_
  first | refine n_iadd (pc := 800) dL_refuses_800 ?_ | refine z_iadd (pc := 800) dL_refuses_800 ?_ | refine r_iadd (pc := 800) dL_refuses_800 ?_
  refine n_iconst_0 (pc := 801) dL_refuses_801 ?_
  refine n_iconst_0 (pc := 802) dL_refuses_802 ?_
  refine r_call5 (pc := 803) rfl rfl dL_refuses_803 (s_ask b hT hO (by decide) (x_save (inR_big (by omega) (by omega)))) (by decide) (Nat.le_of_ble_eq_true rfl) ⟨by decide, by decide⟩ (fun M9 h9 => ?_)
  obtain ⟨hT, hY⟩ := h9
  have hX : ∀ i, 328 ≤ i → M9 i = M i := fun i hi => (hY i hi).trans (hX i hi)
  clear hY
  refine r_ldc (v := -9999001) (pc := 806) (tG 734 (by decide +kernel) (by decide +kernel)) dL_refuses_806 ?_
  refine r_icmp_ne (pc := 808) 879 (by decide) dL_refuses_808 (fun h9 => absurd rfl h9) (fun _ => ?_)
  refine r_aload0 (pc := 811) dL_refuses_811 ?_
  refine n_bipush (pc := 812) 20 (by decide) dL_refuses_812 ?_
  refine r_iconst_m1 (pc := 814) dL_refuses_814 ?_
  refine r_iload1 (pc := 815) dL_refuses_815 ?_
  refine n_bipush (pc := 816) 9 (by decide) dL_refuses_816 ?_
  refine n_irem (pc := 818) dL_refuses_818 (by omega) (by omega) (by omega) ?_
  refine r_isub (pc := 819) dL_refuses_819 ?_
  refine n_iconst_0 (pc := 820) dL_refuses_820 ?_
  refine n_iconst_0 (pc := 821) dL_refuses_821 ?_
  refine r_call5 (pc := 822) rfl rfl dL_refuses_822 (s_ask b hT hO (by decide) (x_restore (inR_ng (by omega)))) (by decide) (Nat.le_of_ble_eq_true rfl) ⟨by decide, by decide⟩ (fun M9 h9 => ?_)
  obtain ⟨hT, hY⟩ := h9
  have hX : ∀ i, 328 ≤ i → M9 i = M i := fun i hi => (hY i hi).trans (hX i hi)
  clear hY
  refine r_ldc (v := -9999001) (pc := 825) (tG 734 (by decide +kernel) (by decide +kernel)) dL_refuses_825 ?_
  refine r_icmp_ne (pc := 827) 879 (by decide) dL_refuses_827 (fun h9 => absurd rfl h9) (fun _ => ?_)
  refine r_aload0 (pc := 830) dL_refuses_830 ?_
  refine n_iconst_0 (pc := 831) dL_refuses_831 ?_
  refine r_lconst_0 (pc := 832) dL_refuses_832 ?_
  refine r_callW3 (pc := 833) lkw_176 rfl dL_refuses_833 (s_scriptX b hT hO (by rw [show inB (nI 0) 1 3 = false from inB_out (by decide) (Or.inl (by decide))]; rfl)) (by decide) (Nat.le_of_ble_eq_true rfl) ⟨by decide, by decide⟩ (fun M9 h9 => ?_)
  obtain ⟨hT, hY⟩ := h9
  have hX : ∀ i, 328 ≤ i → M9 i = M i := fun i hi => (hY i hi).trans (hX i hi)
  clear hY
  refine r_ldc (v := -9999002) (pc := 836) (tG 410 (by decide +kernel) (by decide +kernel)) dL_refuses_836 ?_
  refine r_icmp_ne (pc := 838) 879 (by decide) dL_refuses_838 (fun h9 => absurd rfl h9) (fun _ => ?_)
  refine r_aload0 (pc := 841) dL_refuses_841 ?_
  refine n_iconst_1 (pc := 842) dL_refuses_842 ?_
  refine r_ldc2 (v := (1000000)) (pc := 843) (tG 999 (by decide +kernel) (by decide +kernel)) dL_refuses_843 ?_
  refine r_iload1 (pc := 846) dL_refuses_846 ?_
  refine r_i2l (pc := 847) dL_refuses_847 ?_
  refine r_ladd (pc := 848) dL_refuses_848 ?_
  refine r_callW3 (pc := 849) lkw_176 rfl dL_refuses_849 (s_scriptX b hT hO (scr_no (by omega))) (by decide) (Nat.le_of_ble_eq_true rfl) ⟨by decide, by decide⟩ (fun M9 h9 => ?_)
  obtain ⟨hT, hY⟩ := h9
  have hX : ∀ i, 328 ≤ i → M9 i = M i := fun i hi => (hY i hi).trans (hX i hi)
  clear hY
  refine r_ldc (v := -9999002) (pc := 852) (tG 410 (by decide +kernel) (by decide +kernel)) dL_refuses_852 ?_
  refine r_icmp_ne (pc := 854) 879 (by decide) dL_refuses_854 (fun h9 => absurd rfl h9) (fun _ => ?_)
  refine r_aload0 (pc := 857) dL_refuses_857 ?_
  refine r_iload1 (pc := 858) dL_refuses_858 ?_
  refine r_i2l (pc := 859) dL_refuses_859 ?_
  refine n_bipush (pc := 860) 31 (by decide) dL_refuses_860 ?_
  refine r_iload1 (pc := 862) dL_refuses_862 ?_
  refine n_bipush (pc := 863) 9 (by decide) dL_refuses_863 ?_
  refine n_irem (pc := 865) dL_refuses_865 (by omega) (by omega) (by omega) ?_
  first | refine n_iadd (pc := 866) dL_refuses_866 ?_ | refine z_iadd (pc := 866) dL_refuses_866 ?_ | refine r_iadd (pc := 866) dL_refuses_866 ?_
  refine r_callW3 (pc := 867) lkw_182 rfl dL_refuses_867 (s_simX b hT hO (inB_out (by omega) (Or.inr (by omega)))) (by decide) (Nat.le_of_ble_eq_true rfl) ⟨by decide, by decide⟩ (fun M9 h9 => ?_)
  obtain ⟨hT, hY⟩ := h9
  have hX : ∀ i, 328 ≤ i → M9 i = M i := fun i hi => (hY i hi).trans (hX i hi)
  clear hY
  refine r_ldc (v := -9999002) (pc := 870) (tG 410 (by decide +kernel) (by decide +kernel)) dL_refuses_870 ?_
  refine r_icmp_ne (pc := 872) 879 (by decide) dL_refuses_872 (fun h9 => absurd rfl h9) (fun _ => ?_)
  refine n_iconst_1 (pc := 875) dL_refuses_875 ?_
  refine r_goto (pc := 876) 880 (by decide) dL_refuses_876 ?_
  exact p_ireturn (pc := 880) false rfl rfl (by decide) dL_refuses_880 (by decide) (by decide) (Or.inl rfl) ⟨rfl, hT, hX⟩
theorem s_refuses (b : Bool) {M : Mem} {W : Bool → WS} (hT : TW M W) (hO : WOK (W b)) {X : Nat} (hX0 : X < 100000) : SpecP mL_refuses 11 60 360 [.ref (rb b), .int (nI X)] M (tK M W (nI 1)) := by
  have h : X % 2 = 0 ∨ X % 2 = 1 := by omega
  rcases h with h | h
  · exact s_refuses_even b hT hO hX0 h
  · exact s_refuses_odd b hT hO hX0 h
