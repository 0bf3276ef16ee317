/-- whether a digit suits its place -/
def sutZ (c : Nat) (k v : Nat) : Bool :=
  if c = 67 then decide (k ≤ 2)
  else if c = 75 then decide (k ≤ 5)
  else if c = 89 then decide (k ≤ 1)
  else if c = 99 then (if v = 0 then decide (1 ≤ k) else decide (v = 1 ∨ k = 0))
  else if c = 107 then decide (v < 5 ∨ k ≤ 5)
  else if c = 110 then decide (2 ≤ k ∧ k ≤ 6)
  else if c = 115 then decide (1 ≤ k ∧ k ≤ 2)
  else if c = 120 then decide (k ≤ 7)
  else if c = 121 then decide (v < 1 ∨ k ≤ 3)
  else true
def suZ (c : Nat) (g : Int) (v : Nat) : Bool := decide (0 ≤ g ∧ g ≤ 9) && sutZ c g.toNat v
section SUITS
variable {M : Mem}
theorem s_suits {c v : Nat} {g : Int} (hc : c = 67 ∨ c = 75 ∨ c = 89 ∨ c = 99 ∨ c = 107 ∨ c = 110 ∨ c = 115 ∨ c = 120 ∨ c = 121 ∨ c = 100) (hv : v < 2147483648) (hg1 : -1000 ≤ g) (hg2 : g ≤ 100000) : Spec mX6_suits 1 0 0 [.int (nI c), .int (iI g), .int (nI v)] M (some (.int (bI (suZ c g v)))) M := by
  refine Spec_of [some (.int (nI c)), some (.int (iI g)), some (.int (nI v))] (by decide) (Nat.le_of_ble_eq_true rfl) rfl ?_
  have ret : ∀ (pc : Nat) (y : Bool) (lv : List (Option Value)), dec mX6_suits pc = .ok (.ireturn, 1) → suZ c g v = y → G mX6_suits 1 (.inl false) 0 0 (dT (some (.int (bI (suZ c g v)))) M) none 0 0 pc lv [.int (bI y)] M := by
    intro pc y lv h0 e2
    refine p_ireturn (pc := pc) false rfl rfl (nar_bI y) h0 (Nat.zero_le _) (Nat.zero_le _) (Or.inl rfl) ?_
    rw [e2]
    exact ⟨rfl, rfl⟩
  by_cases hg : 0 ≤ g
  · obtain ⟨k, rfl⟩ := Int.eq_ofNat_of_zero_le hg
    rw [← iI_nat]
    refine r_iload1 (pc := 0) dX6_suits_0 ?_
    refine n_if_lt (pc := 1) 10 (by decide) dX6_suits_1 (by omega) ?_
    refine r_iload1 (pc := 4) dX6_suits_4 ?_
    refine n_bipush (pc := 5) 9 (by decide) dX6_suits_5 ?_
    refine n_icmp_le (pc := 7) 12 (by decide) dX6_suits_7 (by omega) (by omega) (fun h9 => ?_) (fun h9 => ?_)
    · have e0 : ∀ y, sutZ c k v = y → suZ c (k : Int) v = y := by
        intro y e
        unfold suZ
        rw [decide_eq_true (by omega), Int.toNat_natCast, e]; rfl
      refine r_iload0 (pc := 12) dX6_suits_12 ?_
      rcases hc with e | e | e | e | e | e | e | e | e | e <;> subst e
      · refine r_lookup (z := 182) (pc := 13) 195 (by decide) (by decide) (by decide) dX6_suits_13 ?_
        refine r_iload1 (pc := 195) dX6_suits_195 ?_
        refine n_iconst_2 (pc := 196) dX6_suits_196 ?_
        refine n_icmp_gt (pc := 197) 204 (by decide) dX6_suits_197 (by omega) (by omega) (fun h8 => ?_) (fun h8 => ?_)
        · refine n_iconst_0 (pc := 204) dX6_suits_204 ?_
          exact ret 205 false _ dX6_suits_205 (e0 _ (decide_eq_false (by omega)))
        · refine n_iconst_1 (pc := 200) dX6_suits_200 ?_
          refine r_goto (pc := 201) 205 (by decide) dX6_suits_201 ?_
          exact ret 205 true _ dX6_suits_205 (e0 _ (decide_eq_true (by omega)))
      · refine r_lookup (z := 155) (pc := 13) 168 (by decide) (by decide) (by decide) dX6_suits_13 ?_
        refine r_iload1 (pc := 168) dX6_suits_168 ?_
        refine n_iconst_5 (pc := 169) dX6_suits_169 ?_
        refine n_icmp_gt (pc := 170) 177 (by decide) dX6_suits_170 (by omega) (by omega) (fun h8 => ?_) (fun h8 => ?_)
        · refine n_iconst_0 (pc := 177) dX6_suits_177 ?_
          exact ret 178 false _ dX6_suits_178 (e0 _ (decide_eq_false (by omega)))
        · refine n_iconst_1 (pc := 173) dX6_suits_173 ?_
          refine r_goto (pc := 174) 178 (by decide) dX6_suits_174 ?_
          exact ret 178 true _ dX6_suits_178 (e0 _ (decide_eq_true (by omega)))
      · refine r_lookup (z := 128) (pc := 13) 141 (by decide) (by decide) (by decide) dX6_suits_13 ?_
        refine r_iload1 (pc := 141) dX6_suits_141 ?_
        refine n_iconst_1 (pc := 142) dX6_suits_142 ?_
        refine n_icmp_gt (pc := 143) 150 (by decide) dX6_suits_143 (by omega) (by omega) (fun h8 => ?_) (fun h8 => ?_)
        · refine n_iconst_0 (pc := 150) dX6_suits_150 ?_
          exact ret 151 false _ dX6_suits_151 (e0 _ (decide_eq_false (by omega)))
        · refine n_iconst_1 (pc := 146) dX6_suits_146 ?_
          refine r_goto (pc := 147) 151 (by decide) dX6_suits_147 ?_
          exact ret 151 true _ dX6_suits_151 (e0 _ (decide_eq_true (by omega)))
      · refine r_lookup (z := 193) (pc := 13) 206 (by decide) (by decide) (by decide) dX6_suits_13 ?_
        refine r_iload2 (pc := 206) dX6_suits_206 ?_
        refine n_if_ne (pc := 207) 223 (by decide) dX6_suits_207 (by omega) (fun h8 => ?_) (fun h8 => ?_)
        · refine r_iload2 (pc := 223) dX6_suits_223 ?_
          refine n_iconst_1 (pc := 224) dX6_suits_224 ?_
          refine n_icmp_eq (pc := 225) 232 (by decide) dX6_suits_225 (by omega) (by omega) (fun h7 => ?_) (fun h7 => ?_)
          · refine n_iconst_1 (pc := 232) dX6_suits_232 ?_
            refine r_goto (pc := 233) 237 (by decide) dX6_suits_233 ?_
            exact ret 237 true _ dX6_suits_237 (e0 _ (by show (if v = 0 then decide (1 ≤ k) else decide (v = 1 ∨ k = 0)) = true; rw [if_neg h8]; exact decide_eq_true (Or.inl h7)))
          · refine r_iload1 (pc := 228) dX6_suits_228 ?_
            refine n_if_ne (pc := 229) 236 (by decide) dX6_suits_229 (by omega) (fun h6 => ?_) (fun h6 => ?_)
            · refine n_iconst_0 (pc := 236) dX6_suits_236 ?_
              exact ret 237 false _ dX6_suits_237 (e0 _ (by show (if v = 0 then decide (1 ≤ k) else decide (v = 1 ∨ k = 0)) = false; rw [if_neg h8]; exact decide_eq_false (by omega)))
            · refine n_iconst_1 (pc := 232) dX6_suits_232 ?_
              refine r_goto (pc := 233) 237 (by decide) dX6_suits_233 ?_
              exact ret 237 true _ dX6_suits_237 (e0 _ (by show (if v = 0 then decide (1 ≤ k) else decide (v = 1 ∨ k = 0)) = true; rw [if_neg h8]; exact decide_eq_true (by omega)))
        · refine r_iload1 (pc := 210) dX6_suits_210 ?_
          refine n_iconst_1 (pc := 211) dX6_suits_211 ?_
          refine n_icmp_lt (pc := 212) 219 (by decide) dX6_suits_212 (by omega) (by omega) (fun h7 => ?_) (fun h7 => ?_)
          · refine n_iconst_0 (pc := 219) dX6_suits_219 ?_
            refine r_goto (pc := 220) 237 (by decide) dX6_suits_220 ?_
            exact ret 237 false _ dX6_suits_237 (e0 _ (by show (if v = 0 then decide (1 ≤ k) else decide (v = 1 ∨ k = 0)) = false; rw [if_pos h8]; exact decide_eq_false (by omega)))
          · refine n_iconst_1 (pc := 215) dX6_suits_215 ?_
            refine r_goto (pc := 216) 237 (by decide) dX6_suits_216 ?_
            exact ret 237 true _ dX6_suits_237 (e0 _ (by show (if v = 0 then decide (1 ≤ k) else decide (v = 1 ∨ k = 0)) = true; rw [if_pos h8]; exact decide_eq_true (by omega)))
      · refine r_lookup (z := 166) (pc := 13) 179 (by decide) (by decide) (by decide) dX6_suits_13 ?_
        refine r_iload2 (pc := 179) dX6_suits_179 ?_
        refine n_iconst_5 (pc := 180) dX6_suits_180 ?_
        refine n_icmp_lt (pc := 181) 189 (by decide) dX6_suits_181 (by omega) (by omega) (fun h8 => ?_) (fun h8 => ?_)
        · refine n_iconst_1 (pc := 189) dX6_suits_189 ?_
          refine r_goto (pc := 190) 194 (by decide) dX6_suits_190 ?_
          exact ret 194 true _ dX6_suits_194 (e0 _ (decide_eq_true (by omega)))
        · refine r_iload1 (pc := 184) dX6_suits_184 ?_
          refine n_iconst_5 (pc := 185) dX6_suits_185 ?_
          refine n_icmp_gt (pc := 186) 193 (by decide) dX6_suits_186 (by omega) (by omega) (fun h7 => ?_) (fun h7 => ?_)
          · refine n_iconst_0 (pc := 193) dX6_suits_193 ?_
            exact ret 194 false _ dX6_suits_194 (e0 _ (decide_eq_false (by omega)))
          · refine n_iconst_1 (pc := 189) dX6_suits_189 ?_
            refine r_goto (pc := 190) 194 (by decide) dX6_suits_190 ?_
            exact ret 194 true _ dX6_suits_194 (e0 _ (decide_eq_true (by omega)))
      · refine r_lookup (z := 83) (pc := 13) 96 (by decide) (by decide) (by decide) dX6_suits_13 ?_
        refine r_iload1 (pc := 96) dX6_suits_96 ?_
        refine n_iconst_2 (pc := 97) dX6_suits_97 ?_
        refine n_icmp_lt (pc := 98) 111 (by decide) dX6_suits_98 (by omega) (by omega) (fun h8 => ?_) (fun h8 => ?_)
        · refine n_iconst_0 (pc := 111) dX6_suits_111 ?_
          exact ret 112 false _ dX6_suits_112 (e0 _ (decide_eq_false (by omega)))
        · refine r_iload1 (pc := 101) dX6_suits_101 ?_
          refine n_bipush (pc := 102) 6 (by decide) dX6_suits_102 ?_
          refine n_icmp_gt (pc := 104) 111 (by decide) dX6_suits_104 (by omega) (by omega) (fun h7 => ?_) (fun h7 => ?_)
          · refine n_iconst_0 (pc := 111) dX6_suits_111 ?_
            exact ret 112 false _ dX6_suits_112 (e0 _ (decide_eq_false (by omega)))
          · refine n_iconst_1 (pc := 107) dX6_suits_107 ?_
            refine r_goto (pc := 108) 112 (by decide) dX6_suits_108 ?_
            exact ret 112 true _ dX6_suits_112 (e0 _ (decide_eq_true (by omega)))
      · refine r_lookup (z := 100) (pc := 13) 113 (by decide) (by decide) (by decide) dX6_suits_13 ?_
        refine r_iload1 (pc := 113) dX6_suits_113 ?_
        refine n_iconst_1 (pc := 114) dX6_suits_114 ?_
        refine n_icmp_lt (pc := 115) 127 (by decide) dX6_suits_115 (by omega) (by omega) (fun h8 => ?_) (fun h8 => ?_)
        · refine n_iconst_0 (pc := 127) dX6_suits_127 ?_
          exact ret 128 false _ dX6_suits_128 (e0 _ (decide_eq_false (by omega)))
        · refine r_iload1 (pc := 118) dX6_suits_118 ?_
          refine n_iconst_2 (pc := 119) dX6_suits_119 ?_
          refine n_icmp_gt (pc := 120) 127 (by decide) dX6_suits_120 (by omega) (by omega) (fun h7 => ?_) (fun h7 => ?_)
          · refine n_iconst_0 (pc := 127) dX6_suits_127 ?_
            exact ret 128 false _ dX6_suits_128 (e0 _ (decide_eq_false (by omega)))
          · refine n_iconst_1 (pc := 123) dX6_suits_123 ?_
            refine r_goto (pc := 124) 128 (by decide) dX6_suits_124 ?_
            exact ret 128 true _ dX6_suits_128 (e0 _ (decide_eq_true (by omega)))
      · refine r_lookup (z := 116) (pc := 13) 129 (by decide) (by decide) (by decide) dX6_suits_13 ?_
        refine r_iload1 (pc := 129) dX6_suits_129 ?_
        refine n_bipush (pc := 130) 7 (by decide) dX6_suits_130 ?_
        refine n_icmp_gt (pc := 132) 139 (by decide) dX6_suits_132 (by omega) (by omega) (fun h8 => ?_) (fun h8 => ?_)
        · refine n_iconst_0 (pc := 139) dX6_suits_139 ?_
          exact ret 140 false _ dX6_suits_140 (e0 _ (decide_eq_false (by omega)))
        · refine n_iconst_1 (pc := 135) dX6_suits_135 ?_
          refine r_goto (pc := 136) 140 (by decide) dX6_suits_136 ?_
          exact ret 140 true _ dX6_suits_140 (e0 _ (decide_eq_true (by omega)))
      · refine r_lookup (z := 139) (pc := 13) 152 (by decide) (by decide) (by decide) dX6_suits_13 ?_
        refine r_iload2 (pc := 152) dX6_suits_152 ?_
        refine n_iconst_1 (pc := 153) dX6_suits_153 ?_
        refine n_icmp_lt (pc := 154) 162 (by decide) dX6_suits_154 (by omega) (by omega) (fun h8 => ?_) (fun h8 => ?_)
        · refine n_iconst_1 (pc := 162) dX6_suits_162 ?_
          refine r_goto (pc := 163) 167 (by decide) dX6_suits_163 ?_
          exact ret 167 true _ dX6_suits_167 (e0 _ (decide_eq_true (by omega)))
        · refine r_iload1 (pc := 157) dX6_suits_157 ?_
          refine n_iconst_3 (pc := 158) dX6_suits_158 ?_
          refine n_icmp_gt (pc := 159) 166 (by decide) dX6_suits_159 (by omega) (by omega) (fun h7 => ?_) (fun h7 => ?_)
          · refine n_iconst_0 (pc := 166) dX6_suits_166 ?_
            exact ret 167 false _ dX6_suits_167 (e0 _ (decide_eq_false (by omega)))
          · refine n_iconst_1 (pc := 162) dX6_suits_162 ?_
            refine r_goto (pc := 163) 167 (by decide) dX6_suits_163 ?_
            exact ret 167 true _ dX6_suits_167 (e0 _ (decide_eq_true (by omega)))
      · refine r_lookup (z := 225) (pc := 13) 238 (by decide) (by decide) (by decide) dX6_suits_13 ?_
        refine n_iconst_1 (pc := 238) dX6_suits_238 ?_
        exact ret 239 true _ dX6_suits_239 (e0 _ rfl)
    · refine n_iconst_0 (pc := 10) dX6_suits_10 ?_
      exact ret 11 false _ dX6_suits_11 (by unfold suZ; rw [decide_eq_false (by omega)]; rfl)
  · refine r_iload1 (pc := 0) dX6_suits_0 ?_
    refine z_if_lt (pc := 1) 10 (by decide) dX6_suits_1 (by omega) (by omega) (fun _ => ?_) (fun h9 => absurd h9 hg)
    refine n_iconst_0 (pc := 10) dX6_suits_10 ?_
    exact ret 11 false _ dX6_suits_11 (by unfold suZ; rw [decide_eq_false (by omega)]; rfl)
end SUITS
