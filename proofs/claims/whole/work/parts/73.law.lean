/-! the law: reading the script, its end, its loop -/
section LAWR
variable {q : MI} {d : Nat} {x : XM} {mc ms : Nat} {oc : TG} {al : Option Nat} {cs ss pc : Nat} {lv : List (Option Value)} {st : List Value} {M : Mem} {L : Nat} {xs : Nat → Int32}
theorem r_xald {i : Nat} (hxx : x = .inr (.inl (L, xs))) (hi : i < L) (h0 : dec q pc = .ok (.iaload, 1)) (k : G q d x mc ms oc al cs ss (pc + 1) lv (.int (xs i) :: st) M) : G q d x mc ms oc al cs ss pc lv (.int (nI i) :: .ref 1000 :: st) M := by
  intro p l e R s m args below meth c H locs Q D nx nz ad ca A ls C hd hP hS hal hl
  obtain ⟨hx, hb, hml, hr, hown, hts, hK, hE, hA, hJ, hAd, hlk, hst, hRm, hmd⟩ := id C
  subst hxx
  obtain ⟨m1, m2, m3, b, m4, m5, m6, m7, m8⟩ := hmd
  have h31 : L < 2147483648 := m3
  have hnA : ¬ A b := fun q => absurd (m8 b q) (by omega)
  have e9 : (.int (nI i) :: .ref 1000 :: st : List Value).map (cvV ad) = .int (nI i) :: .ref b :: st.map (cvV ad) := by rw [← m4]; rfl
  rw [e9]
  refine va_sld hx hb m6 m7 hnA hS (vp_in_nI hi h31) h0 ?_
  rw [nI_clamp (by omega)]
  exact k p l e R s m args below meth c H locs Q D nx nz ad ca A ls C hd hP hS hal hl
theorem r_xlen (hxx : x = .inr (.inl (L, xs))) (h0 : dec q pc = .ok (.arraylength, 1)) (k : G q d x mc ms oc al cs ss (pc + 1) lv (.int (nI L) :: st) M) : G q d x mc ms oc al cs ss pc lv (.ref 1000 :: st) M := by
  intro p l e R s m args below meth c H locs Q D nx nz ad ca A ls C hd hP hS hal hl
  obtain ⟨hx, hb, hml, hr, hown, hts, hK, hE, hA, hJ, hAd, hlk, hst, hRm, hmd⟩ := id C
  subst hxx
  obtain ⟨m1, m2, m3, b, m4, m5, m6, m7, m8⟩ := hmd
  have hnA : ¬ A b := fun q => absurd (m8 b q) (by omega)
  have e9 : (.ref 1000 :: st : List Value).map (cvV ad) = .ref b :: st.map (cvV ad) := by rw [← m4]; rfl
  rw [e9]
  exact va_slen hx hb m6 m7 hnA hS h0 (k p l e R s m args below meth c H locs Q D nx nz ad ca A ls C hd hP hS hal hl)
end LAWR
abbrev GL (L : Nat) (xs : Nat → Int32) (cs ss pc : Nat) (lv : List (Option Value)) (st : List Value) (M : Mem) : Prop := G mL_law 14 (.inr (.inl (L, xs))) 601024 7293033 (fun _ _ => True) none cs ss pc lv st M
theorem GL_ret {L : Nat} {xs : Nat → Int32} {cs ss pc : Nat} {lv : List (Option Value)} {M : Mem} (h0 : dec mL_law pc = .ok (.ireturn, 1)) (hcs : cs ≤ 601024) (hss : ss ≤ 7293033) : GL L xs cs ss pc lv [.int (nI 1)] M := by
  intro p l e R s m args below meth c H locs Q D nx nz ad ca A ls C hd hP hS hal hl
  obtain ⟨hx, hb, hml, hr, hown, hts, hK, hE, hA, hJ, hAd, hlk, hst, hRm, hmd⟩ := id C
  obtain ⟨m1, m2, m3, b, m4, m5, m6, m7, m8⟩ := hmd
  subst m5 m2
  rw [m1]
  refine W.widen hcs hss (va_forget (fun q hq => m8 _ (hS.2.2 q hq)) ?_)
  exact lw_ret hx hb hr.1 hlk h0
def LINV (L : Nat) (xs : Nat → Int32) (k : Nat) : Prop := ∀ (w : WS) (M : Mem) (S : BS) (f : Nat → Int64) (a5 a6 : Option Value), FACE (kset M 164 S) w → MODEL S w → WOK w → kset M 164 S 172 = some (cJ 1 f) →
  GL L xs (173 + k) (19306 + 6 * k) 23 [some (.ref 1000), some (.ref 0), some (.ref 164), some (.ref 172), some (.int (nI (4 * k))), a5, a6] [] (kset M 164 S)
theorem kfr {M M1 : Mem} {S : BS} (h : ∀ i, 164 ≤ i → i ≠ 172 → M1 i = kset M 164 S i) : ∃ M2, M1 = kset M2 164 S := ⟨M1, (kset_self (fun j c hj => by
  have h8 : j < 8 := (List.getElem?_eq_some_iff.mp hj).1
  exact (h (164 + j) (by omega) (by omega)).trans (kget hj))).symm⟩
theorem k172 {M : Mem} {S S' : BS} : kset M 164 S' 172 = kset M 164 S 172 := by rw [kset_out (by decide), kset_out (by decide)]
theorem FACE.kset {M : Mem} {S S' : BS} {w : WS} (h : FACE (kset M 164 S) w) : FACE (kset M 164 S') w := h.ext (fun i hi => by rw [kset_out (by omega), kset_out (by omega)])
theorem lw_tail {L : Nat} {xs : Nat → Int32} {k cs ss : Nat} {w : WS} {M : Mem} {S : BS} {f : Nat → Int64} {a5 a6 : Option Value} (ih : LINV L xs (k + 1)) (hF : FACE (kset M 164 S) w) (hM : MODEL S w) (hO : WOK w) (hu : kset M 164 S 172 = some (cJ 1 f)) (h1 : cs ≤ 173 + (k + 1)) (h2 : ss ≤ 19306 + 6 * (k + 1)) : GL L xs cs ss 1784 [some (.ref 1000), some (.ref 0), some (.ref 164), some (.ref 172), some (.int (nI (4 * k))), a5, a6] [] (kset M 164 S) := by
  refine G_widen rfl h1 h2 ?_
  refine r_iinc4 (pc := 1784) dL_law_1784 rfl ?_
  rw [show nI (4 * k) + Int32.ofInt 4 = nI (4 * (k + 1)) from nI_add (4 * k) 4]
  refine r_goto (pc := 1787) 23 (by decide) dL_law_1787 ?_
  exact ih w M S f a5 a6 hF hM hO hu
theorem nI_z {a : Nat} (h : a ≤ 3) (e : nI a = 0) : a = 0 := by
  have c : a = 0 ∨ a = 1 ∨ a = 2 ∨ a = 3 := by omega
  rcases c with c | c | c | c <;> subst c
  · rfl
  · exact absurd e (by decide)
  · exact absurd e (by decide)
  · exact absurd e (by decide)
theorem le3_append {x : Int32} {w : WS} : (A_append x w).1 ≤ 3 := by
  unfold A_append
  (repeat' split) <;> exact Nat.le_of_ble_eq_true rfl
theorem wok_errorPosition  {w : WS} (h : WOK w) : WOK (A_errorPosition w).2.2 := by
  unfold A_errorPosition
  first | exact h | ((repeat' split) <;> exact h)
theorem le3_load  {w : WS} : (A_load w).1 ≤ 3 := by
  unfold A_load
  (repeat' split) <;> exact Nat.le_of_ble_eq_true rfl
theorem le3_about {x : Int32} {w : WS} : (A_about x w).1 ≤ 3 := by
  unfold A_about
  (repeat' split) <;> exact Nat.le_of_ble_eq_true rfl
theorem wok_about {x : Int32} {w : WS} (h : WOK w) : WOK (A_about x w).2.2 := by
  unfold A_about
  first | exact h | ((repeat' split) <;> exact h)
theorem le3_square {x : Int32} {y : Int32} {g : Int32} {w : WS} : (A_square x y g w).1 ≤ 3 := by
  unfold A_square
  (repeat' split) <;> exact Nat.le_of_ble_eq_true rfl
theorem wok_square {x : Int32} {y : Int32} {g : Int32} {w : WS} (h : WOK w) : WOK (A_square x y g w).2.2 := by
  unfold A_square
  first | exact h | ((repeat' split) <;> exact h)
theorem le3_place {x : Int32} {y : Int32} {w : WS} : (A_place x y w).1 ≤ 3 := by
  unfold A_place
  (repeat' split) <;> exact Nat.le_of_ble_eq_true rfl
theorem wok_place {x : Int32} {y : Int32} {w : WS} (h : WOK w) : WOK (A_place x y w).2.2 := by
  unfold A_place
  first | exact h | ((repeat' split) <;> exact h)
theorem le3_tile {x : Int32} {y : Int32} {w : WS} : (A_tile x y w).1 ≤ 3 := by
  unfold A_tile
  (repeat' split) <;> exact Nat.le_of_ble_eq_true rfl
theorem wok_tile {x : Int32} {y : Int32} {w : WS} (h : WOK w) : WOK (A_tile x y w).2.2 := by
  unfold A_tile
  first | exact h | ((repeat' split) <;> exact h)
theorem le3_begin {x : Int32} {y : Int32} {w : WS} : (A_begin x y w).1 ≤ 3 := by
  unfold A_begin
  (repeat' split) <;> exact Nat.le_of_ble_eq_true rfl
theorem le3_grey {x : Int32} {y : Int32} {g : Int32} {w : WS} : (A_grey x y g w).1 ≤ 3 := by
  unfold A_grey
  (repeat' split) <;> exact Nat.le_of_ble_eq_true rfl
theorem le3_fade {x : Int32} {y : Int32} {w : WS} : (A_fade x y w).1 ≤ 3 := by
  unfold A_fade
  (repeat' split) <;> exact Nat.le_of_ble_eq_true rfl
theorem le3_turn {x : Int32} {w : WS} : (A_turn x w).1 ≤ 3 := by
  unfold A_turn
  (repeat' split) <;> exact Nat.le_of_ble_eq_true rfl
theorem le3_swap {x : Int32} {y : Int32} {w : WS} : (A_swap x y w).1 ≤ 3 := by
  unfold A_swap
  (repeat' split) <;> exact Nat.le_of_ble_eq_true rfl
theorem le3_flip {x : Int32} {y : Int32} {w : WS} : (A_flip x y w).1 ≤ 3 := by
  unfold A_flip
  (repeat' split) <;> exact Nat.le_of_ble_eq_true rfl
theorem le3_hold {x : Int32} {v : Bool} {w : WS} : (A_hold x v w).1 ≤ 3 := by
  unfold A_hold
  (repeat' split) <;> exact Nat.le_of_ble_eq_true rfl
theorem le3_improve {x : Int32} {w : WS} : (A_improve x w).1 ≤ 3 := by
  unfold A_improve
  (repeat' split) <;> exact Nat.le_of_ble_eq_true rfl
theorem le3_undo  {w : WS} : (A_undo w).1 ≤ 3 := by
  unfold A_undo
  (repeat' split) <;> exact Nat.le_of_ble_eq_true rfl
theorem le3_gain {x : Int32} {w : WS} : (A_gain x w).1 ≤ 3 := by
  unfold A_gain
  (repeat' split) <;> exact Nat.le_of_ble_eq_true rfl
theorem wok_gain {x : Int32} {w : WS} (h : WOK w) : WOK (A_gain x w).2.2 := by
  unfold A_gain
  first | exact h | ((repeat' split) <;> exact h)
theorem le3_best {x : Int32} {w : WS} : (A_best x w).1 ≤ 3 := by
  unfold A_best
  (repeat' split) <;> exact Nat.le_of_ble_eq_true rfl
theorem wok_best {x : Int32} {w : WS} (h : WOK w) : WOK (A_best x w).2.2 := by
  unfold A_best
  first | exact h | ((repeat' split) <;> exact h)
theorem le3_ifImproved {x : Int32} {y : Int32} {w : WS} : (A_ifImproved x y w).1 ≤ 3 := by
  unfold A_ifImproved
  (repeat' split) <;> exact Nat.le_of_ble_eq_true rfl
theorem wok_ifImproved {x : Int32} {y : Int32} {w : WS} (h : WOK w) : WOK (A_ifImproved x y w).2.2 := by
  unfold A_ifImproved
  first | exact h | ((repeat' split) <;> exact h)
theorem wok_least  {w : WS} (h : WOK w) : WOK (A_least w).2.2 := by
  unfold A_least
  first | exact h | ((repeat' split) <;> exact h)
theorem le3_worst {x : Int32} {w : WS} : (A_worst x w).1 ≤ 3 := by
  unfold A_worst
  (repeat' split) <;> exact Nat.le_of_ble_eq_true rfl
theorem wok_worst {x : Int32} {w : WS} (h : WOK w) : WOK (A_worst x w).2.2 := by
  unfold A_worst
  first | exact h | ((repeat' split) <;> exact h)
theorem le3_fits {x : Int32} {w : WS} : (A_fits x w).1 ≤ 3 := by
  unfold A_fits
  (repeat' split) <;> exact Nat.le_of_ble_eq_true rfl
theorem wok_fits {x : Int32} {w : WS} (h : WOK w) : WOK (A_fits x w).2.2 := by
  unfold A_fits
  first | exact h | ((repeat' split) <;> exact h)
theorem le3_runScript {x : Int32} {s : Int64} {w : WS} : (A_runScript x s w).1 ≤ 3 := by
  unfold A_runScript
  (repeat' split) <;> exact Nat.le_of_ble_eq_true rfl
theorem wok_runScript {x : Int32} {s : Int64} {w : WS} (h : WOK w) : WOK (A_runScript x s w).2.2 := by
  unfold A_runScript
  first | exact h | ((repeat' split) <;> exact h)
theorem le3_simulate {s : Int64} {x : Int32} {w : WS} : (A_simulate s x w).1 ≤ 3 := by
  unfold A_simulate
  (repeat' split) <;> exact Nat.le_of_ble_eq_true rfl
theorem wok_simulate {s : Int64} {x : Int32} {w : WS} (h : WOK w) : WOK (A_simulate s x w).2.2 := by
  unfold A_simulate
  first | exact h | ((repeat' split) <;> exact h)
theorem le3_save {x : Int32} {w : WS} : (A_save x w).1 ≤ 3 := by
  unfold A_save
  (repeat' split) <;> exact Nat.le_of_ble_eq_true rfl
theorem le3_restore {x : Int32} {w : WS} : (A_restore x w).1 ≤ 3 := by
  unfold A_restore
  (repeat' split) <;> exact Nat.le_of_ble_eq_true rfl
section LAWC
variable {L : Nat} {xs : Nat → Int32} {k : Nat} {w : WS} {M : Mem} {S : BS} {f : Nat → Int64} {a5 a6 : Option Value}
theorem lc_append (hk : 4 * k + 4 ≤ L) (hL : L ≤ 2048) (ih : LINV L xs (k + 1)) (hF : FACE (kset M 164 S) w) (hM : MODEL S w) (hO : WOK w) (hu : kset M 164 S 172 = some (cJ 1 f)) : GL L xs (173 + k) (19306 + 6 * k) 164 [some (.ref 1000), some (.ref 0), some (.ref 164), some (.ref 172), some (.int (nI (4 * k))), a5, a6] [] (kset M 164 S) := by
  refine r_aload1 (pc := 164) dL_law_164 ?_
  refine r_aload0 (pc := 165) dL_law_165 ?_
  refine r_iload4 (pc := 166) dL_law_166 ?_
  refine n_iconst_1 (pc := 168) dL_law_168 ?_
  first | refine n_iadd (pc := 169) dL_law_169 ?_ | refine z_iadd (pc := 169) dL_law_169 ?_ | refine r_iadd (pc := 169) dL_law_169 ?_
  refine r_xald (pc := 170) rfl (by omega) dL_law_170 ?_
  refine r_aload3 (pc := 171) dL_law_171 ?_
  refine G_callSW (pc := 172) (as := [.ref 0, .int (xs (4 * k + 1)), .ref 172]) (rest := []) rfl lkw_98 dL_law_172 (sL_append hF hO hu) (by decide) rfl (by decide) ⟨by omega, by omega⟩ (fun r1 M1 h1 => ?_)
  obtain ⟨h1, k1, k2, g, k3, k4⟩ := h1
  cases h1
  obtain ⟨M2, rfl⟩ := kfr k2
  have hlt : (A_append (xs (4 * k + 1)) w).1 ≤ 3 := le3_append
  have hok : WOK (A_append (xs (4 * k + 1)) w).2.2 := wok_append hO
  have hmod : SpecP mX8_append 12 0 0 [.ref 164, .int (xs (4 * k + 1))] (kset M2 164 S) (tMo M2 164 (A_append (xs (4 * k + 1)) w)) := s8_append hM hO
  generalize hr : A_append (xs (4 * k + 1)) w = r at k1 k4 hlt hok hmod ⊢
  change GL L xs (173 + k + 1) (19306 + 6 * k + 6) 175 [some (.ref 1000), some (.ref 0), some (.ref 164), some (.ref 172), some (.int (nI (4 * k))), a5, a6] [.int (nI r.1)] (kset M2 164 S)
  refine r_istore5 (pc := 175) dL_law_175 rfl ?_
  refine r_aload2 (pc := 177) dL_law_177 ?_
  refine r_aload0 (pc := 178) dL_law_178 ?_
  refine r_iload4 (pc := 179) dL_law_179 ?_
  refine n_iconst_1 (pc := 181) dL_law_181 ?_
  first | refine n_iadd (pc := 182) dL_law_182 ?_ | refine z_iadd (pc := 182) dL_law_182 ?_ | refine r_iadd (pc := 182) dL_law_182 ?_
  refine r_xald (pc := 183) rfl (by omega) dL_law_183 ?_
  refine r_callV1x (pc := 184) lk_L_103 dL_law_184 (kget0 rfl) hmod (by decide) (Nat.le_of_ble_eq_true rfl) ⟨by omega, by omega⟩ (fun M9 h9 => ?_)
  obtain ⟨S2, n1, n2, rfl⟩ := h9
  refine r_istore6 (pc := 187) dL_law_187 rfl ?_
  refine r_aload2 (pc := 189) dL_law_189 ?_
  refine r_callV0i (pc := 190) lk_L_104 dL_law_190 (kget0 rfl) (s8_thrown (M := M2) (b := 164) n2) (by decide) (Nat.le_of_ble_eq_true rfl) ⟨by omega, by omega⟩ ?_
  refine r_iload5 (pc := 193) dL_law_193 ?_
  refine r_icmp_eq (pc := 195) 200 (by decide) dL_law_195 (fun _ => ?_) (fun h => absurd rfl h)
  refine r_iload5 (pc := 200) dL_law_200 ?_
  have hu2 : kset M2 164 S2 172 = some (cJ 1 g) := k172.trans k3
  have tl : GL L xs (173 + k + 1) (19306 + 6 * k + 6) 217 [some (.ref 1000), some (.ref 0), some (.ref 164), some (.ref 172), some (.int (nI (4 * k))), some (.int (nI r.1)), some (.int r.2.1)] [] (kset M2 164 S2) := by
    refine r_goto (pc := 217) 1784 (by decide) dL_law_217 ?_
    exact lw_tail ih k1.kset n1 hok hu2 (by omega) (by omega)
  refine r_if_ne (pc := 202) 217 (by decide) dL_law_202 (fun _ => tl) (fun h9 => ?_)
  have hr0 := nI_z hlt h9
  have e9 : g (nI 0).toNatClampNeg = r.2.1.toInt64 := k4 hr0
  refine r_aload3 (pc := 205) dL_law_205 ?_
  refine n_iconst_0 (pc := 206) dL_law_206 ?_
  refine r_lald (pc := 207) dL_law_207 hu2 in01 ?_
  rw [e9]
  refine r_iload6 (pc := 208) dL_law_208 ?_
  refine r_i2l (pc := 210) dL_law_210 ?_
  refine r_lcmp (pc := 211) dL_law_211 ?_
  refine r_if_eq (pc := 212) 217 (by decide) dL_law_212 (fun _ => tl) (fun h => absurd ((lg_cmp_eq _ _).mpr rfl) h)
theorem lc_clearText (hk : 4 * k + 4 ≤ L) (hL : L ≤ 2048) (ih : LINV L xs (k + 1)) (hF : FACE (kset M 164 S) w) (hM : MODEL S w) (hO : WOK w) (hu : kset M 164 S 172 = some (cJ 1 f)) : GL L xs (173 + k) (19306 + 6 * k) 220 [some (.ref 1000), some (.ref 0), some (.ref 164), some (.ref 172), some (.int (nI (4 * k))), a5, a6] [] (kset M 164 S) := by
  refine r_aload1 (pc := 220) dL_law_220 ?_
  refine G_callV (pc := 221) (as := []) (rest := []) lk_L_107 dL_law_221 (show kset M 164 S 0 = some (cO 6 [.ref 1, .ref 23, .ref 45, .ref 145, .ref 162]) from hF.1) (s7_clearText hF hO) (by decide) rfl (by decide) ⟨by omega, by omega⟩ (Or.inl rfl) (fun r1 M1 h1 => ?_)
  obtain ⟨k1, k2, k3, h1⟩ := h1
  cases h1
  obtain ⟨M2, rfl⟩ := kfr (fun i a _ => k2 i a)
  have hok := wok_clearText hO
  have hmod := s8_clearText (M := M2) (b := 164) (S := S) hM hO
  have hu2 := (k2 172 (by decide)).trans hu
  generalize hr : A_clearText w = r at k1 hok hmod ⊢
  change GL L xs (173 + k + 0) (19306 + 6 * k + 0) 224 [some (.ref 1000), some (.ref 0), some (.ref 164), some (.ref 172), some (.int (nI (4 * k))), a5, a6] [.int r.2.1] (kset M2 164 S)
  refine r_aload2 (pc := 224) dL_law_224 ?_
  refine r_callV0x (pc := 225) lk_L_110 dL_law_225 (kget0 rfl) hmod (by decide) (Nat.le_of_ble_eq_true rfl) ⟨by omega, by omega⟩ (fun M9 h9 => ?_)
  obtain ⟨S2, n1, n2, rfl⟩ := h9
  refine r_icmp_eq (pc := 228) 1784 (by decide) dL_law_228 (fun _ => ?_) (fun h => absurd rfl h)
  exact lw_tail ih k1.kset n1 hok (k172.trans hu2) (by omega) (by omega)
theorem lc_errorPosition (hk : 4 * k + 4 ≤ L) (hL : L ≤ 2048) (ih : LINV L xs (k + 1)) (hF : FACE (kset M 164 S) w) (hM : MODEL S w) (hO : WOK w) (hu : kset M 164 S 172 = some (cJ 1 f)) : GL L xs (173 + k) (19306 + 6 * k) 233 [some (.ref 1000), some (.ref 0), some (.ref 164), some (.ref 172), some (.int (nI (4 * k))), a5, a6] [] (kset M 164 S) := by
  refine r_aload1 (pc := 233) dL_law_233 ?_
  refine G_callV (pc := 234) (as := []) (rest := []) lk_L_111 dL_law_234 (show kset M 164 S 0 = some (cO 6 [.ref 1, .ref 23, .ref 45, .ref 145, .ref 162]) from hF.1) (s7_errorPosition hF hO) (by decide) rfl (by decide) ⟨by omega, by omega⟩ (Or.inl rfl) (fun r1 M1 h1 => ?_)
  obtain ⟨k1, k2, k3, h1⟩ := h1
  cases h1
  obtain ⟨M2, rfl⟩ := kfr (fun i a _ => k2 i a)
  have hok := wok_errorPosition hO
  have hmod := s8_errorPosition (M := M2) (b := 164) (S := S) hM hO
  have hu2 := (k2 172 (by decide)).trans hu
  generalize hr : A_errorPosition w = r at k1 hok hmod ⊢
  change GL L xs (173 + k + 0) (19306 + 6 * k + 0) 237 [some (.ref 1000), some (.ref 0), some (.ref 164), some (.ref 172), some (.int (nI (4 * k))), a5, a6] [.int r.2.1] (kset M2 164 S)
  refine r_aload2 (pc := 237) dL_law_237 ?_
  refine r_callV0x (pc := 238) lk_L_114 dL_law_238 (kget0 rfl) hmod (by decide) (Nat.le_of_ble_eq_true rfl) ⟨by omega, by omega⟩ (fun M9 h9 => ?_)
  obtain ⟨S2, n1, n2, rfl⟩ := h9
  refine r_icmp_eq (pc := 241) 1784 (by decide) dL_law_241 (fun _ => ?_) (fun h => absurd rfl h)
  exact lw_tail ih k1.kset n1 hok (k172.trans hu2) (by omega) (by omega)
theorem lc_load (hk : 4 * k + 4 ≤ L) (hL : L ≤ 2048) (ih : LINV L xs (k + 1)) (hF : FACE (kset M 164 S) w) (hM : MODEL S w) (hO : WOK w) (hu : kset M 164 S 172 = some (cJ 1 f)) : GL L xs (173 + k) (19306 + 6 * k) 246 [some (.ref 1000), some (.ref 0), some (.ref 164), some (.ref 172), some (.int (nI (4 * k))), a5, a6] [] (kset M 164 S) := by
  refine r_aload1 (pc := 246) dL_law_246 ?_
  refine r_aload3 (pc := 247) dL_law_247 ?_
  refine G_callSW (pc := 248) (as := [.ref 0, .ref 172]) (rest := []) rfl lkw_115 dL_law_248 (sL_load hF hO hu) (by decide) rfl (by decide) ⟨by omega, by omega⟩ (fun r1 M1 h1 => ?_)
  obtain ⟨h1, k1, k2, g, k3, k4⟩ := h1
  cases h1
  obtain ⟨M2, rfl⟩ := kfr k2
  have hlt : (A_load w).1 ≤ 3 := le3_load
  have hok : WOK (A_load w).2.2 := wok_load hO
  have hmod : SpecP mX8_load 12 0 0 [.ref 164] (kset M2 164 S) (tMo M2 164 (A_load w)) := s8_load hM hO
  generalize hr : A_load w = r at k1 k4 hlt hok hmod ⊢
  change GL L xs (173 + k + 1) (19306 + 6 * k + 6) 251 [some (.ref 1000), some (.ref 0), some (.ref 164), some (.ref 172), some (.int (nI (4 * k))), a5, a6] [.int (nI r.1)] (kset M2 164 S)
  refine r_istore5 (pc := 251) dL_law_251 rfl ?_
  refine r_aload2 (pc := 253) dL_law_253 ?_
  refine r_callV0x (pc := 254) lk_L_118 dL_law_254 (kget0 rfl) hmod (by decide) (Nat.le_of_ble_eq_true rfl) ⟨by omega, by omega⟩ (fun M9 h9 => ?_)
  obtain ⟨S2, n1, n2, rfl⟩ := h9
  refine r_istore6 (pc := 257) dL_law_257 rfl ?_
  refine r_aload2 (pc := 259) dL_law_259 ?_
  refine r_callV0i (pc := 260) lk_L_104 dL_law_260 (kget0 rfl) (s8_thrown (M := M2) (b := 164) n2) (by decide) (Nat.le_of_ble_eq_true rfl) ⟨by omega, by omega⟩ ?_
  refine r_iload5 (pc := 263) dL_law_263 ?_
  refine r_icmp_eq (pc := 265) 270 (by decide) dL_law_265 (fun _ => ?_) (fun h => absurd rfl h)
  refine r_iload5 (pc := 270) dL_law_270 ?_
  have hu2 : kset M2 164 S2 172 = some (cJ 1 g) := k172.trans k3
  have tl : GL L xs (173 + k + 1) (19306 + 6 * k + 6) 287 [some (.ref 1000), some (.ref 0), some (.ref 164), some (.ref 172), some (.int (nI (4 * k))), some (.int (nI r.1)), some (.int r.2.1)] [] (kset M2 164 S2) := by
    refine r_goto (pc := 287) 1784 (by decide) dL_law_287 ?_
    exact lw_tail ih k1.kset n1 hok hu2 (by omega) (by omega)
  refine r_if_ne (pc := 272) 287 (by decide) dL_law_272 (fun _ => tl) (fun h9 => ?_)
  have hr0 := nI_z hlt h9
  have e9 : g (nI 0).toNatClampNeg = r.2.1.toInt64 := k4 hr0
  refine r_aload3 (pc := 275) dL_law_275 ?_
  refine n_iconst_0 (pc := 276) dL_law_276 ?_
  refine r_lald (pc := 277) dL_law_277 hu2 in01 ?_
  rw [e9]
  refine r_iload6 (pc := 278) dL_law_278 ?_
  refine r_i2l (pc := 280) dL_law_280 ?_
  refine r_lcmp (pc := 281) dL_law_281 ?_
  refine r_if_eq (pc := 282) 287 (by decide) dL_law_282 (fun _ => tl) (fun h => absurd ((lg_cmp_eq _ _).mpr rfl) h)
theorem lc_about (hk : 4 * k + 4 ≤ L) (hL : L ≤ 2048) (ih : LINV L xs (k + 1)) (hF : FACE (kset M 164 S) w) (hM : MODEL S w) (hO : WOK w) (hu : kset M 164 S 172 = some (cJ 1 f)) : GL L xs (173 + k) (19306 + 6 * k) 290 [some (.ref 1000), some (.ref 0), some (.ref 164), some (.ref 172), some (.int (nI (4 * k))), a5, a6] [] (kset M 164 S) := by
  refine r_aload1 (pc := 290) dL_law_290 ?_
  refine r_aload0 (pc := 291) dL_law_291 ?_
  refine r_iload4 (pc := 292) dL_law_292 ?_
  refine n_iconst_1 (pc := 294) dL_law_294 ?_
  first | refine n_iadd (pc := 295) dL_law_295 ?_ | refine z_iadd (pc := 295) dL_law_295 ?_ | refine r_iadd (pc := 295) dL_law_295 ?_
  refine r_xald (pc := 296) rfl (by omega) dL_law_296 ?_
  refine r_aload3 (pc := 297) dL_law_297 ?_
  refine G_callSW (pc := 298) (as := [.ref 0, .int (xs (4 * k + 1)), .ref 172]) (rest := []) rfl lkw_119 dL_law_298 (sL_about hF hO hu) (by decide) rfl (by decide) ⟨by omega, by omega⟩ (fun r1 M1 h1 => ?_)
  obtain ⟨h1, k1, k2, g, k3, k4⟩ := h1
  cases h1
  obtain ⟨M2, rfl⟩ := kfr k2
  have hlt : (A_about (xs (4 * k + 1)) w).1 ≤ 3 := le3_about
  have hok : WOK (A_about (xs (4 * k + 1)) w).2.2 := wok_about hO
  have hmod : SpecP mX8_about 12 0 0 [.ref 164, .int (xs (4 * k + 1))] (kset M2 164 S) (tMo M2 164 (A_about (xs (4 * k + 1)) w)) := s8_about hM hO
  generalize hr : A_about (xs (4 * k + 1)) w = r at k1 k4 hlt hok hmod ⊢
  change GL L xs (173 + k + 1) (19306 + 6 * k + 6) 301 [some (.ref 1000), some (.ref 0), some (.ref 164), some (.ref 172), some (.int (nI (4 * k))), a5, a6] [.int (nI r.1)] (kset M2 164 S)
  refine r_istore5 (pc := 301) dL_law_301 rfl ?_
  refine r_aload2 (pc := 303) dL_law_303 ?_
  refine r_aload0 (pc := 304) dL_law_304 ?_
  refine r_iload4 (pc := 305) dL_law_305 ?_
  refine n_iconst_1 (pc := 307) dL_law_307 ?_
  first | refine n_iadd (pc := 308) dL_law_308 ?_ | refine z_iadd (pc := 308) dL_law_308 ?_ | refine r_iadd (pc := 308) dL_law_308 ?_
  refine r_xald (pc := 309) rfl (by omega) dL_law_309 ?_
  refine r_callV1x (pc := 310) lk_L_121 dL_law_310 (kget0 rfl) hmod (by decide) (Nat.le_of_ble_eq_true rfl) ⟨by omega, by omega⟩ (fun M9 h9 => ?_)
  obtain ⟨S2, n1, n2, rfl⟩ := h9
  refine r_istore6 (pc := 313) dL_law_313 rfl ?_
  refine r_aload2 (pc := 315) dL_law_315 ?_
  refine r_callV0i (pc := 316) lk_L_104 dL_law_316 (kget0 rfl) (s8_thrown (M := M2) (b := 164) n2) (by decide) (Nat.le_of_ble_eq_true rfl) ⟨by omega, by omega⟩ ?_
  refine r_iload5 (pc := 319) dL_law_319 ?_
  refine r_icmp_eq (pc := 321) 326 (by decide) dL_law_321 (fun _ => ?_) (fun h => absurd rfl h)
  refine r_iload5 (pc := 326) dL_law_326 ?_
  have hu2 : kset M2 164 S2 172 = some (cJ 1 g) := k172.trans k3
  have tl : GL L xs (173 + k + 1) (19306 + 6 * k + 6) 343 [some (.ref 1000), some (.ref 0), some (.ref 164), some (.ref 172), some (.int (nI (4 * k))), some (.int (nI r.1)), some (.int r.2.1)] [] (kset M2 164 S2) := by
    refine r_goto (pc := 343) 1784 (by decide) dL_law_343 ?_
    exact lw_tail ih k1.kset n1 hok hu2 (by omega) (by omega)
  refine r_if_ne (pc := 328) 343 (by decide) dL_law_328 (fun _ => tl) (fun h9 => ?_)
  have hr0 := nI_z hlt h9
  have e9 : g (nI 0).toNatClampNeg = r.2.1.toInt64 := k4 hr0
  refine r_aload3 (pc := 331) dL_law_331 ?_
  refine n_iconst_0 (pc := 332) dL_law_332 ?_
  refine r_lald (pc := 333) dL_law_333 hu2 in01 ?_
  rw [e9]
  refine r_iload6 (pc := 334) dL_law_334 ?_
  refine r_i2l (pc := 336) dL_law_336 ?_
  refine r_lcmp (pc := 337) dL_law_337 ?_
  refine r_if_eq (pc := 338) 343 (by decide) dL_law_338 (fun _ => tl) (fun h => absurd ((lg_cmp_eq _ _).mpr rfl) h)
theorem lc_square (hk : 4 * k + 4 ≤ L) (hL : L ≤ 2048) (ih : LINV L xs (k + 1)) (hF : FACE (kset M 164 S) w) (hM : MODEL S w) (hO : WOK w) (hu : kset M 164 S 172 = some (cJ 1 f)) : GL L xs (173 + k) (19306 + 6 * k) 346 [some (.ref 1000), some (.ref 0), some (.ref 164), some (.ref 172), some (.int (nI (4 * k))), a5, a6] [] (kset M 164 S) := by
  refine r_aload1 (pc := 346) dL_law_346 ?_
  refine r_aload0 (pc := 347) dL_law_347 ?_
  refine r_iload4 (pc := 348) dL_law_348 ?_
  refine n_iconst_1 (pc := 350) dL_law_350 ?_
  first | refine n_iadd (pc := 351) dL_law_351 ?_ | refine z_iadd (pc := 351) dL_law_351 ?_ | refine r_iadd (pc := 351) dL_law_351 ?_
  refine r_xald (pc := 352) rfl (by omega) dL_law_352 ?_
  refine r_aload0 (pc := 353) dL_law_353 ?_
  refine r_iload4 (pc := 354) dL_law_354 ?_
  refine n_iconst_2 (pc := 356) dL_law_356 ?_
  first | refine n_iadd (pc := 357) dL_law_357 ?_ | refine z_iadd (pc := 357) dL_law_357 ?_ | refine r_iadd (pc := 357) dL_law_357 ?_
  refine r_xald (pc := 358) rfl (by omega) dL_law_358 ?_
  refine r_aload0 (pc := 359) dL_law_359 ?_
  refine r_iload4 (pc := 360) dL_law_360 ?_
  refine n_iconst_3 (pc := 362) dL_law_362 ?_
  first | refine n_iadd (pc := 363) dL_law_363 ?_ | refine z_iadd (pc := 363) dL_law_363 ?_ | refine r_iadd (pc := 363) dL_law_363 ?_
  refine r_xald (pc := 364) rfl (by omega) dL_law_364 ?_
  refine r_aload3 (pc := 365) dL_law_365 ?_
  refine G_callSW (pc := 366) (as := [.ref 0, .int (xs (4 * k + 1)), .int (xs (4 * k + 2)), .int (xs (4 * k + 3)), .ref 172]) (rest := []) rfl lkw_122 dL_law_366 (sL_square hF hO hu) (by decide) rfl (by decide) ⟨by omega, by omega⟩ (fun r1 M1 h1 => ?_)
  obtain ⟨h1, k1, k2, g, k3, k4⟩ := h1
  cases h1
  obtain ⟨M2, rfl⟩ := kfr k2
  have hlt : (A_square (xs (4 * k + 1)) (xs (4 * k + 2)) (xs (4 * k + 3)) w).1 ≤ 3 := le3_square
  have hok : WOK (A_square (xs (4 * k + 1)) (xs (4 * k + 2)) (xs (4 * k + 3)) w).2.2 := wok_square hO
  have hmod : SpecP mX8_square 12 0 0 [.ref 164, .int (xs (4 * k + 1)), .int (xs (4 * k + 2)), .int (xs (4 * k + 3))] (kset M2 164 S) (tMo M2 164 (A_square (xs (4 * k + 1)) (xs (4 * k + 2)) (xs (4 * k + 3)) w)) := s8_square hM hO
  generalize hr : A_square (xs (4 * k + 1)) (xs (4 * k + 2)) (xs (4 * k + 3)) w = r at k1 k4 hlt hok hmod ⊢
  change GL L xs (173 + k + 1) (19306 + 6 * k + 6) 369 [some (.ref 1000), some (.ref 0), some (.ref 164), some (.ref 172), some (.int (nI (4 * k))), a5, a6] [.int (nI r.1)] (kset M2 164 S)
  refine r_istore5 (pc := 369) dL_law_369 rfl ?_
  refine r_aload2 (pc := 371) dL_law_371 ?_
  refine r_aload0 (pc := 372) dL_law_372 ?_
  refine r_iload4 (pc := 373) dL_law_373 ?_
  refine n_iconst_1 (pc := 375) dL_law_375 ?_
  first | refine n_iadd (pc := 376) dL_law_376 ?_ | refine z_iadd (pc := 376) dL_law_376 ?_ | refine r_iadd (pc := 376) dL_law_376 ?_
  refine r_xald (pc := 377) rfl (by omega) dL_law_377 ?_
  refine r_aload0 (pc := 378) dL_law_378 ?_
  refine r_iload4 (pc := 379) dL_law_379 ?_
  refine n_iconst_2 (pc := 381) dL_law_381 ?_
  first | refine n_iadd (pc := 382) dL_law_382 ?_ | refine z_iadd (pc := 382) dL_law_382 ?_ | refine r_iadd (pc := 382) dL_law_382 ?_
  refine r_xald (pc := 383) rfl (by omega) dL_law_383 ?_
  refine r_aload0 (pc := 384) dL_law_384 ?_
  refine r_iload4 (pc := 385) dL_law_385 ?_
  refine n_iconst_3 (pc := 387) dL_law_387 ?_
  first | refine n_iadd (pc := 388) dL_law_388 ?_ | refine z_iadd (pc := 388) dL_law_388 ?_ | refine r_iadd (pc := 388) dL_law_388 ?_
  refine r_xald (pc := 389) rfl (by omega) dL_law_389 ?_
  refine r_callV3x (pc := 390) lk_L_125 dL_law_390 (kget0 rfl) hmod (by decide) (Nat.le_of_ble_eq_true rfl) ⟨by omega, by omega⟩ (fun M9 h9 => ?_)
  obtain ⟨S2, n1, n2, rfl⟩ := h9
  refine r_istore6 (pc := 393) dL_law_393 rfl ?_
  refine r_aload2 (pc := 395) dL_law_395 ?_
  refine r_callV0i (pc := 396) lk_L_104 dL_law_396 (kget0 rfl) (s8_thrown (M := M2) (b := 164) n2) (by decide) (Nat.le_of_ble_eq_true rfl) ⟨by omega, by omega⟩ ?_
  refine r_iload5 (pc := 399) dL_law_399 ?_
  refine r_icmp_eq (pc := 401) 406 (by decide) dL_law_401 (fun _ => ?_) (fun h => absurd rfl h)
  refine r_iload5 (pc := 406) dL_law_406 ?_
  have hu2 : kset M2 164 S2 172 = some (cJ 1 g) := k172.trans k3
  have tl : GL L xs (173 + k + 1) (19306 + 6 * k + 6) 423 [some (.ref 1000), some (.ref 0), some (.ref 164), some (.ref 172), some (.int (nI (4 * k))), some (.int (nI r.1)), some (.int r.2.1)] [] (kset M2 164 S2) := by
    refine r_goto (pc := 423) 1784 (by decide) dL_law_423 ?_
    exact lw_tail ih k1.kset n1 hok hu2 (by omega) (by omega)
  refine r_if_ne (pc := 408) 423 (by decide) dL_law_408 (fun _ => tl) (fun h9 => ?_)
  have hr0 := nI_z hlt h9
  have e9 : g (nI 0).toNatClampNeg = r.2.1.toInt64 := k4 hr0
  refine r_aload3 (pc := 411) dL_law_411 ?_
  refine n_iconst_0 (pc := 412) dL_law_412 ?_
  refine r_lald (pc := 413) dL_law_413 hu2 in01 ?_
  rw [e9]
  refine r_iload6 (pc := 414) dL_law_414 ?_
  refine r_i2l (pc := 416) dL_law_416 ?_
  refine r_lcmp (pc := 417) dL_law_417 ?_
  refine r_if_eq (pc := 418) 423 (by decide) dL_law_418 (fun _ => tl) (fun h => absurd ((lg_cmp_eq _ _).mpr rfl) h)
theorem lc_place (hk : 4 * k + 4 ≤ L) (hL : L ≤ 2048) (ih : LINV L xs (k + 1)) (hF : FACE (kset M 164 S) w) (hM : MODEL S w) (hO : WOK w) (hu : kset M 164 S 172 = some (cJ 1 f)) : GL L xs (173 + k) (19306 + 6 * k) 426 [some (.ref 1000), some (.ref 0), some (.ref 164), some (.ref 172), some (.int (nI (4 * k))), a5, a6] [] (kset M 164 S) := by
  refine r_aload1 (pc := 426) dL_law_426 ?_
  refine r_aload0 (pc := 427) dL_law_427 ?_
  refine r_iload4 (pc := 428) dL_law_428 ?_
  refine n_iconst_1 (pc := 430) dL_law_430 ?_
  first | refine n_iadd (pc := 431) dL_law_431 ?_ | refine z_iadd (pc := 431) dL_law_431 ?_ | refine r_iadd (pc := 431) dL_law_431 ?_
  refine r_xald (pc := 432) rfl (by omega) dL_law_432 ?_
  refine r_aload0 (pc := 433) dL_law_433 ?_
  refine r_iload4 (pc := 434) dL_law_434 ?_
  refine n_iconst_2 (pc := 436) dL_law_436 ?_
  first | refine n_iadd (pc := 437) dL_law_437 ?_ | refine z_iadd (pc := 437) dL_law_437 ?_ | refine r_iadd (pc := 437) dL_law_437 ?_
  refine r_xald (pc := 438) rfl (by omega) dL_law_438 ?_
  refine r_aload3 (pc := 439) dL_law_439 ?_
  refine G_callSW (pc := 440) (as := [.ref 0, .int (xs (4 * k + 1)), .int (xs (4 * k + 2)), .ref 172]) (rest := []) rfl lkw_126 dL_law_440 (sL_place hF hO hu) (by decide) rfl (by decide) ⟨by omega, by omega⟩ (fun r1 M1 h1 => ?_)
  obtain ⟨h1, k1, k2, g, k3, k4⟩ := h1
  cases h1
  obtain ⟨M2, rfl⟩ := kfr k2
  have hlt : (A_place (xs (4 * k + 1)) (xs (4 * k + 2)) w).1 ≤ 3 := le3_place
  have hok : WOK (A_place (xs (4 * k + 1)) (xs (4 * k + 2)) w).2.2 := wok_place hO
  have hmod : SpecP mX8_place 12 0 0 [.ref 164, .int (xs (4 * k + 1)), .int (xs (4 * k + 2))] (kset M2 164 S) (tMo M2 164 (A_place (xs (4 * k + 1)) (xs (4 * k + 2)) w)) := s8_place hM hO
  generalize hr : A_place (xs (4 * k + 1)) (xs (4 * k + 2)) w = r at k1 k4 hlt hok hmod ⊢
  change GL L xs (173 + k + 1) (19306 + 6 * k + 6) 443 [some (.ref 1000), some (.ref 0), some (.ref 164), some (.ref 172), some (.int (nI (4 * k))), a5, a6] [.int (nI r.1)] (kset M2 164 S)
  refine r_istore5 (pc := 443) dL_law_443 rfl ?_
  refine r_aload2 (pc := 445) dL_law_445 ?_
  refine r_aload0 (pc := 446) dL_law_446 ?_
  refine r_iload4 (pc := 447) dL_law_447 ?_
  refine n_iconst_1 (pc := 449) dL_law_449 ?_
  first | refine n_iadd (pc := 450) dL_law_450 ?_ | refine z_iadd (pc := 450) dL_law_450 ?_ | refine r_iadd (pc := 450) dL_law_450 ?_
  refine r_xald (pc := 451) rfl (by omega) dL_law_451 ?_
  refine r_aload0 (pc := 452) dL_law_452 ?_
  refine r_iload4 (pc := 453) dL_law_453 ?_
  refine n_iconst_2 (pc := 455) dL_law_455 ?_
  first | refine n_iadd (pc := 456) dL_law_456 ?_ | refine z_iadd (pc := 456) dL_law_456 ?_ | refine r_iadd (pc := 456) dL_law_456 ?_
  refine r_xald (pc := 457) rfl (by omega) dL_law_457 ?_
  refine r_callV2x (pc := 458) lk_L_129 dL_law_458 (kget0 rfl) hmod (by decide) (Nat.le_of_ble_eq_true rfl) ⟨by omega, by omega⟩ (fun M9 h9 => ?_)
  obtain ⟨S2, n1, n2, rfl⟩ := h9
  refine r_istore6 (pc := 461) dL_law_461 rfl ?_
  refine r_aload2 (pc := 463) dL_law_463 ?_
  refine r_callV0i (pc := 464) lk_L_104 dL_law_464 (kget0 rfl) (s8_thrown (M := M2) (b := 164) n2) (by decide) (Nat.le_of_ble_eq_true rfl) ⟨by omega, by omega⟩ ?_
  refine r_iload5 (pc := 467) dL_law_467 ?_
  refine r_icmp_eq (pc := 469) 474 (by decide) dL_law_469 (fun _ => ?_) (fun h => absurd rfl h)
  refine r_iload5 (pc := 474) dL_law_474 ?_
  have hu2 : kset M2 164 S2 172 = some (cJ 1 g) := k172.trans k3
  have tl : GL L xs (173 + k + 1) (19306 + 6 * k + 6) 491 [some (.ref 1000), some (.ref 0), some (.ref 164), some (.ref 172), some (.int (nI (4 * k))), some (.int (nI r.1)), some (.int r.2.1)] [] (kset M2 164 S2) := by
    refine r_goto (pc := 491) 1784 (by decide) dL_law_491 ?_
    exact lw_tail ih k1.kset n1 hok hu2 (by omega) (by omega)
  refine r_if_ne (pc := 476) 491 (by decide) dL_law_476 (fun _ => tl) (fun h9 => ?_)
  have hr0 := nI_z hlt h9
  have e9 : g (nI 0).toNatClampNeg = r.2.1.toInt64 := k4 hr0
  refine r_aload3 (pc := 479) dL_law_479 ?_
  refine n_iconst_0 (pc := 480) dL_law_480 ?_
  refine r_lald (pc := 481) dL_law_481 hu2 in01 ?_
  rw [e9]
  refine r_iload6 (pc := 482) dL_law_482 ?_
  refine r_i2l (pc := 484) dL_law_484 ?_
  refine r_lcmp (pc := 485) dL_law_485 ?_
  refine r_if_eq (pc := 486) 491 (by decide) dL_law_486 (fun _ => tl) (fun h => absurd ((lg_cmp_eq _ _).mpr rfl) h)
theorem lc_tile (hk : 4 * k + 4 ≤ L) (hL : L ≤ 2048) (ih : LINV L xs (k + 1)) (hF : FACE (kset M 164 S) w) (hM : MODEL S w) (hO : WOK w) (hu : kset M 164 S 172 = some (cJ 1 f)) : GL L xs (173 + k) (19306 + 6 * k) 494 [some (.ref 1000), some (.ref 0), some (.ref 164), some (.ref 172), some (.int (nI (4 * k))), a5, a6] [] (kset M 164 S) := by
  refine r_aload1 (pc := 494) dL_law_494 ?_
  refine r_aload0 (pc := 495) dL_law_495 ?_
  refine r_iload4 (pc := 496) dL_law_496 ?_
  refine n_iconst_1 (pc := 498) dL_law_498 ?_
  first | refine n_iadd (pc := 499) dL_law_499 ?_ | refine z_iadd (pc := 499) dL_law_499 ?_ | refine r_iadd (pc := 499) dL_law_499 ?_
  refine r_xald (pc := 500) rfl (by omega) dL_law_500 ?_
  refine r_aload0 (pc := 501) dL_law_501 ?_
  refine r_iload4 (pc := 502) dL_law_502 ?_
  refine n_iconst_2 (pc := 504) dL_law_504 ?_
  first | refine n_iadd (pc := 505) dL_law_505 ?_ | refine z_iadd (pc := 505) dL_law_505 ?_ | refine r_iadd (pc := 505) dL_law_505 ?_
  refine r_xald (pc := 506) rfl (by omega) dL_law_506 ?_
  refine r_aload3 (pc := 507) dL_law_507 ?_
  refine G_callSW (pc := 508) (as := [.ref 0, .int (xs (4 * k + 1)), .int (xs (4 * k + 2)), .ref 172]) (rest := []) rfl lkw_130 dL_law_508 (sL_tile hF hO hu) (by decide) rfl (by decide) ⟨by omega, by omega⟩ (fun r1 M1 h1 => ?_)
  obtain ⟨h1, k1, k2, g, k3, k4⟩ := h1
  cases h1
  obtain ⟨M2, rfl⟩ := kfr k2
  have hlt : (A_tile (xs (4 * k + 1)) (xs (4 * k + 2)) w).1 ≤ 3 := le3_tile
  have hok : WOK (A_tile (xs (4 * k + 1)) (xs (4 * k + 2)) w).2.2 := wok_tile hO
  have hmod : SpecP mX8_tile 12 0 0 [.ref 164, .int (xs (4 * k + 1)), .int (xs (4 * k + 2))] (kset M2 164 S) (tMo M2 164 (A_tile (xs (4 * k + 1)) (xs (4 * k + 2)) w)) := s8_tile hM hO
  generalize hr : A_tile (xs (4 * k + 1)) (xs (4 * k + 2)) w = r at k1 k4 hlt hok hmod ⊢
  change GL L xs (173 + k + 1) (19306 + 6 * k + 6) 511 [some (.ref 1000), some (.ref 0), some (.ref 164), some (.ref 172), some (.int (nI (4 * k))), a5, a6] [.int (nI r.1)] (kset M2 164 S)
  refine r_istore5 (pc := 511) dL_law_511 rfl ?_
  refine r_aload2 (pc := 513) dL_law_513 ?_
  refine r_aload0 (pc := 514) dL_law_514 ?_
  refine r_iload4 (pc := 515) dL_law_515 ?_
  refine n_iconst_1 (pc := 517) dL_law_517 ?_
  first | refine n_iadd (pc := 518) dL_law_518 ?_ | refine z_iadd (pc := 518) dL_law_518 ?_ | refine r_iadd (pc := 518) dL_law_518 ?_
  refine r_xald (pc := 519) rfl (by omega) dL_law_519 ?_
  refine r_aload0 (pc := 520) dL_law_520 ?_
  refine r_iload4 (pc := 521) dL_law_521 ?_
  refine n_iconst_2 (pc := 523) dL_law_523 ?_
  first | refine n_iadd (pc := 524) dL_law_524 ?_ | refine z_iadd (pc := 524) dL_law_524 ?_ | refine r_iadd (pc := 524) dL_law_524 ?_
  refine r_xald (pc := 525) rfl (by omega) dL_law_525 ?_
  refine r_callV2x (pc := 526) lk_L_132 dL_law_526 (kget0 rfl) hmod (by decide) (Nat.le_of_ble_eq_true rfl) ⟨by omega, by omega⟩ (fun M9 h9 => ?_)
  obtain ⟨S2, n1, n2, rfl⟩ := h9
  refine r_istore6 (pc := 529) dL_law_529 rfl ?_
  refine r_aload2 (pc := 531) dL_law_531 ?_
  refine r_callV0i (pc := 532) lk_L_104 dL_law_532 (kget0 rfl) (s8_thrown (M := M2) (b := 164) n2) (by decide) (Nat.le_of_ble_eq_true rfl) ⟨by omega, by omega⟩ ?_
  refine r_iload5 (pc := 535) dL_law_535 ?_
  refine r_icmp_eq (pc := 537) 542 (by decide) dL_law_537 (fun _ => ?_) (fun h => absurd rfl h)
  refine r_iload5 (pc := 542) dL_law_542 ?_
  have hu2 : kset M2 164 S2 172 = some (cJ 1 g) := k172.trans k3
  have tl : GL L xs (173 + k + 1) (19306 + 6 * k + 6) 559 [some (.ref 1000), some (.ref 0), some (.ref 164), some (.ref 172), some (.int (nI (4 * k))), some (.int (nI r.1)), some (.int r.2.1)] [] (kset M2 164 S2) := by
    refine r_goto (pc := 559) 1784 (by decide) dL_law_559 ?_
    exact lw_tail ih k1.kset n1 hok hu2 (by omega) (by omega)
  refine r_if_ne (pc := 544) 559 (by decide) dL_law_544 (fun _ => tl) (fun h9 => ?_)
  have hr0 := nI_z hlt h9
  have e9 : g (nI 0).toNatClampNeg = r.2.1.toInt64 := k4 hr0
  refine r_aload3 (pc := 547) dL_law_547 ?_
  refine n_iconst_0 (pc := 548) dL_law_548 ?_
  refine r_lald (pc := 549) dL_law_549 hu2 in01 ?_
  rw [e9]
  refine r_iload6 (pc := 550) dL_law_550 ?_
  refine r_i2l (pc := 552) dL_law_552 ?_
  refine r_lcmp (pc := 553) dL_law_553 ?_
  refine r_if_eq (pc := 554) 559 (by decide) dL_law_554 (fun _ => tl) (fun h => absurd ((lg_cmp_eq _ _).mpr rfl) h)
theorem lc_begin (hk : 4 * k + 4 ≤ L) (hL : L ≤ 2048) (ih : LINV L xs (k + 1)) (hF : FACE (kset M 164 S) w) (hM : MODEL S w) (hO : WOK w) (hu : kset M 164 S 172 = some (cJ 1 f)) : GL L xs (173 + k) (19306 + 6 * k) 562 [some (.ref 1000), some (.ref 0), some (.ref 164), some (.ref 172), some (.int (nI (4 * k))), a5, a6] [] (kset M 164 S) := by
  refine r_aload1 (pc := 562) dL_law_562 ?_
  refine r_aload0 (pc := 563) dL_law_563 ?_
  refine r_iload4 (pc := 564) dL_law_564 ?_
  refine n_iconst_1 (pc := 566) dL_law_566 ?_
  first | refine n_iadd (pc := 567) dL_law_567 ?_ | refine z_iadd (pc := 567) dL_law_567 ?_ | refine r_iadd (pc := 567) dL_law_567 ?_
  refine r_xald (pc := 568) rfl (by omega) dL_law_568 ?_
  refine r_aload0 (pc := 569) dL_law_569 ?_
  refine r_iload4 (pc := 570) dL_law_570 ?_
  refine n_iconst_2 (pc := 572) dL_law_572 ?_
  first | refine n_iadd (pc := 573) dL_law_573 ?_ | refine z_iadd (pc := 573) dL_law_573 ?_ | refine r_iadd (pc := 573) dL_law_573 ?_
  refine r_xald (pc := 574) rfl (by omega) dL_law_574 ?_
  refine r_aload3 (pc := 575) dL_law_575 ?_
  refine G_callSW (pc := 576) (as := [.ref 0, .int (xs (4 * k + 1)), .int (xs (4 * k + 2)), .ref 172]) (rest := []) rfl lkw_133 dL_law_576 (sL_begin hF hO hu) (by decide) rfl (by decide) ⟨by omega, by omega⟩ (fun r1 M1 h1 => ?_)
  obtain ⟨h1, k1, k2, g, k3, k4⟩ := h1
  cases h1
  obtain ⟨M2, rfl⟩ := kfr k2
  have hlt : (A_begin (xs (4 * k + 1)) (xs (4 * k + 2)) w).1 ≤ 3 := le3_begin
  have hok : WOK (A_begin (xs (4 * k + 1)) (xs (4 * k + 2)) w).2.2 := wok_begin hO
  have hmod : SpecP mX8_begin 12 0 0 [.ref 164, .int (xs (4 * k + 1)), .int (xs (4 * k + 2))] (kset M2 164 S) (tMo M2 164 (A_begin (xs (4 * k + 1)) (xs (4 * k + 2)) w)) := s8_begin hM hO
  generalize hr : A_begin (xs (4 * k + 1)) (xs (4 * k + 2)) w = r at k1 k4 hlt hok hmod ⊢
  change GL L xs (173 + k + 1) (19306 + 6 * k + 6) 579 [some (.ref 1000), some (.ref 0), some (.ref 164), some (.ref 172), some (.int (nI (4 * k))), a5, a6] [.int (nI r.1)] (kset M2 164 S)
  refine r_istore5 (pc := 579) dL_law_579 rfl ?_
  refine r_aload2 (pc := 581) dL_law_581 ?_
  refine r_aload0 (pc := 582) dL_law_582 ?_
  refine r_iload4 (pc := 583) dL_law_583 ?_
  refine n_iconst_1 (pc := 585) dL_law_585 ?_
  first | refine n_iadd (pc := 586) dL_law_586 ?_ | refine z_iadd (pc := 586) dL_law_586 ?_ | refine r_iadd (pc := 586) dL_law_586 ?_
  refine r_xald (pc := 587) rfl (by omega) dL_law_587 ?_
  refine r_aload0 (pc := 588) dL_law_588 ?_
  refine r_iload4 (pc := 589) dL_law_589 ?_
  refine n_iconst_2 (pc := 591) dL_law_591 ?_
  first | refine n_iadd (pc := 592) dL_law_592 ?_ | refine z_iadd (pc := 592) dL_law_592 ?_ | refine r_iadd (pc := 592) dL_law_592 ?_
  refine r_xald (pc := 593) rfl (by omega) dL_law_593 ?_
  refine r_callV2x (pc := 594) lk_L_135 dL_law_594 (kget0 rfl) hmod (by decide) (Nat.le_of_ble_eq_true rfl) ⟨by omega, by omega⟩ (fun M9 h9 => ?_)
  obtain ⟨S2, n1, n2, rfl⟩ := h9
  refine r_istore6 (pc := 597) dL_law_597 rfl ?_
  refine r_aload2 (pc := 599) dL_law_599 ?_
  refine r_callV0i (pc := 600) lk_L_104 dL_law_600 (kget0 rfl) (s8_thrown (M := M2) (b := 164) n2) (by decide) (Nat.le_of_ble_eq_true rfl) ⟨by omega, by omega⟩ ?_
  refine r_iload5 (pc := 603) dL_law_603 ?_
  refine r_icmp_eq (pc := 605) 610 (by decide) dL_law_605 (fun _ => ?_) (fun h => absurd rfl h)
  refine r_iload5 (pc := 610) dL_law_610 ?_
  have hu2 : kset M2 164 S2 172 = some (cJ 1 g) := k172.trans k3
  have tl : GL L xs (173 + k + 1) (19306 + 6 * k + 6) 627 [some (.ref 1000), some (.ref 0), some (.ref 164), some (.ref 172), some (.int (nI (4 * k))), some (.int (nI r.1)), some (.int r.2.1)] [] (kset M2 164 S2) := by
    refine r_goto (pc := 627) 1784 (by decide) dL_law_627 ?_
    exact lw_tail ih k1.kset n1 hok hu2 (by omega) (by omega)
  refine r_if_ne (pc := 612) 627 (by decide) dL_law_612 (fun _ => tl) (fun h9 => ?_)
  have hr0 := nI_z hlt h9
  have e9 : g (nI 0).toNatClampNeg = r.2.1.toInt64 := k4 hr0
  refine r_aload3 (pc := 615) dL_law_615 ?_
  refine n_iconst_0 (pc := 616) dL_law_616 ?_
  refine r_lald (pc := 617) dL_law_617 hu2 in01 ?_
  rw [e9]
  refine r_iload6 (pc := 618) dL_law_618 ?_
  refine r_i2l (pc := 620) dL_law_620 ?_
  refine r_lcmp (pc := 621) dL_law_621 ?_
  refine r_if_eq (pc := 622) 627 (by decide) dL_law_622 (fun _ => tl) (fun h => absurd ((lg_cmp_eq _ _).mpr rfl) h)
theorem lc_grey (hk : 4 * k + 4 ≤ L) (hL : L ≤ 2048) (ih : LINV L xs (k + 1)) (hF : FACE (kset M 164 S) w) (hM : MODEL S w) (hO : WOK w) (hu : kset M 164 S 172 = some (cJ 1 f)) : GL L xs (173 + k) (19306 + 6 * k) 630 [some (.ref 1000), some (.ref 0), some (.ref 164), some (.ref 172), some (.int (nI (4 * k))), a5, a6] [] (kset M 164 S) := by
  refine r_aload1 (pc := 630) dL_law_630 ?_
  refine r_aload0 (pc := 631) dL_law_631 ?_
  refine r_iload4 (pc := 632) dL_law_632 ?_
  refine n_iconst_1 (pc := 634) dL_law_634 ?_
  first | refine n_iadd (pc := 635) dL_law_635 ?_ | refine z_iadd (pc := 635) dL_law_635 ?_ | refine r_iadd (pc := 635) dL_law_635 ?_
  refine r_xald (pc := 636) rfl (by omega) dL_law_636 ?_
  refine r_aload0 (pc := 637) dL_law_637 ?_
  refine r_iload4 (pc := 638) dL_law_638 ?_
  refine n_iconst_2 (pc := 640) dL_law_640 ?_
  first | refine n_iadd (pc := 641) dL_law_641 ?_ | refine z_iadd (pc := 641) dL_law_641 ?_ | refine r_iadd (pc := 641) dL_law_641 ?_
  refine r_xald (pc := 642) rfl (by omega) dL_law_642 ?_
  refine r_aload0 (pc := 643) dL_law_643 ?_
  refine r_iload4 (pc := 644) dL_law_644 ?_
  refine n_iconst_3 (pc := 646) dL_law_646 ?_
  first | refine n_iadd (pc := 647) dL_law_647 ?_ | refine z_iadd (pc := 647) dL_law_647 ?_ | refine r_iadd (pc := 647) dL_law_647 ?_
  refine r_xald (pc := 648) rfl (by omega) dL_law_648 ?_
  refine r_aload3 (pc := 649) dL_law_649 ?_
  refine G_callSW (pc := 650) (as := [.ref 0, .int (xs (4 * k + 1)), .int (xs (4 * k + 2)), .int (xs (4 * k + 3)), .ref 172]) (rest := []) rfl lkw_136 dL_law_650 (sL_grey hF hO hu) (by decide) rfl (by decide) ⟨by omega, by omega⟩ (fun r1 M1 h1 => ?_)
  obtain ⟨h1, k1, k2, g, k3, k4⟩ := h1
  cases h1
  obtain ⟨M2, rfl⟩ := kfr k2
  have hlt : (A_grey (xs (4 * k + 1)) (xs (4 * k + 2)) (xs (4 * k + 3)) w).1 ≤ 3 := le3_grey
  have hok : WOK (A_grey (xs (4 * k + 1)) (xs (4 * k + 2)) (xs (4 * k + 3)) w).2.2 := wok_grey hO
  have hmod : SpecP mX8_grey 12 0 0 [.ref 164, .int (xs (4 * k + 1)), .int (xs (4 * k + 2)), .int (xs (4 * k + 3))] (kset M2 164 S) (tMo M2 164 (A_grey (xs (4 * k + 1)) (xs (4 * k + 2)) (xs (4 * k + 3)) w)) := s8_grey hM hO
  generalize hr : A_grey (xs (4 * k + 1)) (xs (4 * k + 2)) (xs (4 * k + 3)) w = r at k1 k4 hlt hok hmod ⊢
  change GL L xs (173 + k + 1) (19306 + 6 * k + 6) 653 [some (.ref 1000), some (.ref 0), some (.ref 164), some (.ref 172), some (.int (nI (4 * k))), a5, a6] [.int (nI r.1)] (kset M2 164 S)
  refine r_istore5 (pc := 653) dL_law_653 rfl ?_
  refine r_aload2 (pc := 655) dL_law_655 ?_
  refine r_aload0 (pc := 656) dL_law_656 ?_
  refine r_iload4 (pc := 657) dL_law_657 ?_
  refine n_iconst_1 (pc := 659) dL_law_659 ?_
  first | refine n_iadd (pc := 660) dL_law_660 ?_ | refine z_iadd (pc := 660) dL_law_660 ?_ | refine r_iadd (pc := 660) dL_law_660 ?_
  refine r_xald (pc := 661) rfl (by omega) dL_law_661 ?_
  refine r_aload0 (pc := 662) dL_law_662 ?_
  refine r_iload4 (pc := 663) dL_law_663 ?_
  refine n_iconst_2 (pc := 665) dL_law_665 ?_
  first | refine n_iadd (pc := 666) dL_law_666 ?_ | refine z_iadd (pc := 666) dL_law_666 ?_ | refine r_iadd (pc := 666) dL_law_666 ?_
  refine r_xald (pc := 667) rfl (by omega) dL_law_667 ?_
  refine r_aload0 (pc := 668) dL_law_668 ?_
  refine r_iload4 (pc := 669) dL_law_669 ?_
  refine n_iconst_3 (pc := 671) dL_law_671 ?_
  first | refine n_iadd (pc := 672) dL_law_672 ?_ | refine z_iadd (pc := 672) dL_law_672 ?_ | refine r_iadd (pc := 672) dL_law_672 ?_
  refine r_xald (pc := 673) rfl (by omega) dL_law_673 ?_
  refine r_callV3x (pc := 674) lk_L_138 dL_law_674 (kget0 rfl) hmod (by decide) (Nat.le_of_ble_eq_true rfl) ⟨by omega, by omega⟩ (fun M9 h9 => ?_)
  obtain ⟨S2, n1, n2, rfl⟩ := h9
  refine r_istore6 (pc := 677) dL_law_677 rfl ?_
  refine r_aload2 (pc := 679) dL_law_679 ?_
  refine r_callV0i (pc := 680) lk_L_104 dL_law_680 (kget0 rfl) (s8_thrown (M := M2) (b := 164) n2) (by decide) (Nat.le_of_ble_eq_true rfl) ⟨by omega, by omega⟩ ?_
  refine r_iload5 (pc := 683) dL_law_683 ?_
  refine r_icmp_eq (pc := 685) 690 (by decide) dL_law_685 (fun _ => ?_) (fun h => absurd rfl h)
  refine r_iload5 (pc := 690) dL_law_690 ?_
  have hu2 : kset M2 164 S2 172 = some (cJ 1 g) := k172.trans k3
  have tl : GL L xs (173 + k + 1) (19306 + 6 * k + 6) 707 [some (.ref 1000), some (.ref 0), some (.ref 164), some (.ref 172), some (.int (nI (4 * k))), some (.int (nI r.1)), some (.int r.2.1)] [] (kset M2 164 S2) := by
    refine r_goto (pc := 707) 1784 (by decide) dL_law_707 ?_
    exact lw_tail ih k1.kset n1 hok hu2 (by omega) (by omega)
  refine r_if_ne (pc := 692) 707 (by decide) dL_law_692 (fun _ => tl) (fun h9 => ?_)
  have hr0 := nI_z hlt h9
  have e9 : g (nI 0).toNatClampNeg = r.2.1.toInt64 := k4 hr0
  refine r_aload3 (pc := 695) dL_law_695 ?_
  refine n_iconst_0 (pc := 696) dL_law_696 ?_
  refine r_lald (pc := 697) dL_law_697 hu2 in01 ?_
  rw [e9]
  refine r_iload6 (pc := 698) dL_law_698 ?_
  refine r_i2l (pc := 700) dL_law_700 ?_
  refine r_lcmp (pc := 701) dL_law_701 ?_
  refine r_if_eq (pc := 702) 707 (by decide) dL_law_702 (fun _ => tl) (fun h => absurd ((lg_cmp_eq _ _).mpr rfl) h)
theorem lc_fade (hk : 4 * k + 4 ≤ L) (hL : L ≤ 2048) (ih : LINV L xs (k + 1)) (hF : FACE (kset M 164 S) w) (hM : MODEL S w) (hO : WOK w) (hu : kset M 164 S 172 = some (cJ 1 f)) : GL L xs (173 + k) (19306 + 6 * k) 710 [some (.ref 1000), some (.ref 0), some (.ref 164), some (.ref 172), some (.int (nI (4 * k))), a5, a6] [] (kset M 164 S) := by
  refine r_aload1 (pc := 710) dL_law_710 ?_
  refine r_aload0 (pc := 711) dL_law_711 ?_
  refine r_iload4 (pc := 712) dL_law_712 ?_
  refine n_iconst_1 (pc := 714) dL_law_714 ?_
  first | refine n_iadd (pc := 715) dL_law_715 ?_ | refine z_iadd (pc := 715) dL_law_715 ?_ | refine r_iadd (pc := 715) dL_law_715 ?_
  refine r_xald (pc := 716) rfl (by omega) dL_law_716 ?_
  refine r_aload0 (pc := 717) dL_law_717 ?_
  refine r_iload4 (pc := 718) dL_law_718 ?_
  refine n_iconst_2 (pc := 720) dL_law_720 ?_
  first | refine n_iadd (pc := 721) dL_law_721 ?_ | refine z_iadd (pc := 721) dL_law_721 ?_ | refine r_iadd (pc := 721) dL_law_721 ?_
  refine r_xald (pc := 722) rfl (by omega) dL_law_722 ?_
  refine r_aload3 (pc := 723) dL_law_723 ?_
  refine G_callSW (pc := 724) (as := [.ref 0, .int (xs (4 * k + 1)), .int (xs (4 * k + 2)), .ref 172]) (rest := []) rfl lkw_139 dL_law_724 (sL_fade hF hO hu) (by decide) rfl (by decide) ⟨by omega, by omega⟩ (fun r1 M1 h1 => ?_)
  obtain ⟨h1, k1, k2, g, k3, k4⟩ := h1
  cases h1
  obtain ⟨M2, rfl⟩ := kfr k2
  have hlt : (A_fade (xs (4 * k + 1)) (xs (4 * k + 2)) w).1 ≤ 3 := le3_fade
  have hok : WOK (A_fade (xs (4 * k + 1)) (xs (4 * k + 2)) w).2.2 := wok_fade hO
  have hmod : SpecP mX8_fade 12 0 0 [.ref 164, .int (xs (4 * k + 1)), .int (xs (4 * k + 2))] (kset M2 164 S) (tMo M2 164 (A_fade (xs (4 * k + 1)) (xs (4 * k + 2)) w)) := s8_fade hM hO
  generalize hr : A_fade (xs (4 * k + 1)) (xs (4 * k + 2)) w = r at k1 k4 hlt hok hmod ⊢
  change GL L xs (173 + k + 1) (19306 + 6 * k + 6) 727 [some (.ref 1000), some (.ref 0), some (.ref 164), some (.ref 172), some (.int (nI (4 * k))), a5, a6] [.int (nI r.1)] (kset M2 164 S)
  refine r_istore5 (pc := 727) dL_law_727 rfl ?_
  refine r_aload2 (pc := 729) dL_law_729 ?_
  refine r_aload0 (pc := 730) dL_law_730 ?_
  refine r_iload4 (pc := 731) dL_law_731 ?_
  refine n_iconst_1 (pc := 733) dL_law_733 ?_
  first | refine n_iadd (pc := 734) dL_law_734 ?_ | refine z_iadd (pc := 734) dL_law_734 ?_ | refine r_iadd (pc := 734) dL_law_734 ?_
  refine r_xald (pc := 735) rfl (by omega) dL_law_735 ?_
  refine r_aload0 (pc := 736) dL_law_736 ?_
  refine r_iload4 (pc := 737) dL_law_737 ?_
  refine n_iconst_2 (pc := 739) dL_law_739 ?_
  first | refine n_iadd (pc := 740) dL_law_740 ?_ | refine z_iadd (pc := 740) dL_law_740 ?_ | refine r_iadd (pc := 740) dL_law_740 ?_
  refine r_xald (pc := 741) rfl (by omega) dL_law_741 ?_
  refine r_callV2x (pc := 742) lk_L_141 dL_law_742 (kget0 rfl) hmod (by decide) (Nat.le_of_ble_eq_true rfl) ⟨by omega, by omega⟩ (fun M9 h9 => ?_)
  obtain ⟨S2, n1, n2, rfl⟩ := h9
  refine r_istore6 (pc := 745) dL_law_745 rfl ?_
  refine r_aload2 (pc := 747) dL_law_747 ?_
  refine r_callV0i (pc := 748) lk_L_104 dL_law_748 (kget0 rfl) (s8_thrown (M := M2) (b := 164) n2) (by decide) (Nat.le_of_ble_eq_true rfl) ⟨by omega, by omega⟩ ?_
  refine r_iload5 (pc := 751) dL_law_751 ?_
  refine r_icmp_eq (pc := 753) 758 (by decide) dL_law_753 (fun _ => ?_) (fun h => absurd rfl h)
  refine r_iload5 (pc := 758) dL_law_758 ?_
  have hu2 : kset M2 164 S2 172 = some (cJ 1 g) := k172.trans k3
  have tl : GL L xs (173 + k + 1) (19306 + 6 * k + 6) 775 [some (.ref 1000), some (.ref 0), some (.ref 164), some (.ref 172), some (.int (nI (4 * k))), some (.int (nI r.1)), some (.int r.2.1)] [] (kset M2 164 S2) := by
    refine r_goto (pc := 775) 1784 (by decide) dL_law_775 ?_
    exact lw_tail ih k1.kset n1 hok hu2 (by omega) (by omega)
  refine r_if_ne (pc := 760) 775 (by decide) dL_law_760 (fun _ => tl) (fun h9 => ?_)
  have hr0 := nI_z hlt h9
  have e9 : g (nI 0).toNatClampNeg = r.2.1.toInt64 := k4 hr0
  refine r_aload3 (pc := 763) dL_law_763 ?_
  refine n_iconst_0 (pc := 764) dL_law_764 ?_
  refine r_lald (pc := 765) dL_law_765 hu2 in01 ?_
  rw [e9]
  refine r_iload6 (pc := 766) dL_law_766 ?_
  refine r_i2l (pc := 768) dL_law_768 ?_
  refine r_lcmp (pc := 769) dL_law_769 ?_
  refine r_if_eq (pc := 770) 775 (by decide) dL_law_770 (fun _ => tl) (fun h => absurd ((lg_cmp_eq _ _).mpr rfl) h)
theorem lc_turn (hk : 4 * k + 4 ≤ L) (hL : L ≤ 2048) (ih : LINV L xs (k + 1)) (hF : FACE (kset M 164 S) w) (hM : MODEL S w) (hO : WOK w) (hu : kset M 164 S 172 = some (cJ 1 f)) : GL L xs (173 + k) (19306 + 6 * k) 778 [some (.ref 1000), some (.ref 0), some (.ref 164), some (.ref 172), some (.int (nI (4 * k))), a5, a6] [] (kset M 164 S) := by
  refine r_aload1 (pc := 778) dL_law_778 ?_
  refine r_aload0 (pc := 779) dL_law_779 ?_
  refine r_iload4 (pc := 780) dL_law_780 ?_
  refine n_iconst_1 (pc := 782) dL_law_782 ?_
  first | refine n_iadd (pc := 783) dL_law_783 ?_ | refine z_iadd (pc := 783) dL_law_783 ?_ | refine r_iadd (pc := 783) dL_law_783 ?_
  refine r_xald (pc := 784) rfl (by omega) dL_law_784 ?_
  refine r_aload3 (pc := 785) dL_law_785 ?_
  refine G_callSW (pc := 786) (as := [.ref 0, .int (xs (4 * k + 1)), .ref 172]) (rest := []) rfl lkw_142 dL_law_786 (sL_turn hF hO hu) (by decide) rfl (by decide) ⟨by omega, by omega⟩ (fun r1 M1 h1 => ?_)
  obtain ⟨h1, k1, k2, g, k3, k4⟩ := h1
  cases h1
  obtain ⟨M2, rfl⟩ := kfr k2
  have hlt : (A_turn (xs (4 * k + 1)) w).1 ≤ 3 := le3_turn
  have hok : WOK (A_turn (xs (4 * k + 1)) w).2.2 := wok_turn hO
  have hmod : SpecP mX8_turn 12 0 0 [.ref 164, .int (xs (4 * k + 1))] (kset M2 164 S) (tMo M2 164 (A_turn (xs (4 * k + 1)) w)) := s8_turn hM hO
  generalize hr : A_turn (xs (4 * k + 1)) w = r at k1 k4 hlt hok hmod ⊢
  change GL L xs (173 + k + 1) (19306 + 6 * k + 6) 789 [some (.ref 1000), some (.ref 0), some (.ref 164), some (.ref 172), some (.int (nI (4 * k))), a5, a6] [.int (nI r.1)] (kset M2 164 S)
  refine r_istore5 (pc := 789) dL_law_789 rfl ?_
  refine r_aload2 (pc := 791) dL_law_791 ?_
  refine r_aload0 (pc := 792) dL_law_792 ?_
  refine r_iload4 (pc := 793) dL_law_793 ?_
  refine n_iconst_1 (pc := 795) dL_law_795 ?_
  first | refine n_iadd (pc := 796) dL_law_796 ?_ | refine z_iadd (pc := 796) dL_law_796 ?_ | refine r_iadd (pc := 796) dL_law_796 ?_
  refine r_xald (pc := 797) rfl (by omega) dL_law_797 ?_
  refine r_callV1x (pc := 798) lk_L_144 dL_law_798 (kget0 rfl) hmod (by decide) (Nat.le_of_ble_eq_true rfl) ⟨by omega, by omega⟩ (fun M9 h9 => ?_)
  obtain ⟨S2, n1, n2, rfl⟩ := h9
  refine r_istore6 (pc := 801) dL_law_801 rfl ?_
  refine r_aload2 (pc := 803) dL_law_803 ?_
  refine r_callV0i (pc := 804) lk_L_104 dL_law_804 (kget0 rfl) (s8_thrown (M := M2) (b := 164) n2) (by decide) (Nat.le_of_ble_eq_true rfl) ⟨by omega, by omega⟩ ?_
  refine r_iload5 (pc := 807) dL_law_807 ?_
  refine r_icmp_eq (pc := 809) 814 (by decide) dL_law_809 (fun _ => ?_) (fun h => absurd rfl h)
  refine r_iload5 (pc := 814) dL_law_814 ?_
  have hu2 : kset M2 164 S2 172 = some (cJ 1 g) := k172.trans k3
  have tl : GL L xs (173 + k + 1) (19306 + 6 * k + 6) 831 [some (.ref 1000), some (.ref 0), some (.ref 164), some (.ref 172), some (.int (nI (4 * k))), some (.int (nI r.1)), some (.int r.2.1)] [] (kset M2 164 S2) := by
    refine r_goto (pc := 831) 1784 (by decide) dL_law_831 ?_
    exact lw_tail ih k1.kset n1 hok hu2 (by omega) (by omega)
  refine r_if_ne (pc := 816) 831 (by decide) dL_law_816 (fun _ => tl) (fun h9 => ?_)
  have hr0 := nI_z hlt h9
  have e9 : g (nI 0).toNatClampNeg = r.2.1.toInt64 := k4 hr0
  refine r_aload3 (pc := 819) dL_law_819 ?_
  refine n_iconst_0 (pc := 820) dL_law_820 ?_
  refine r_lald (pc := 821) dL_law_821 hu2 in01 ?_
  rw [e9]
  refine r_iload6 (pc := 822) dL_law_822 ?_
  refine r_i2l (pc := 824) dL_law_824 ?_
  refine r_lcmp (pc := 825) dL_law_825 ?_
  refine r_if_eq (pc := 826) 831 (by decide) dL_law_826 (fun _ => tl) (fun h => absurd ((lg_cmp_eq _ _).mpr rfl) h)
theorem lc_swap (hk : 4 * k + 4 ≤ L) (hL : L ≤ 2048) (ih : LINV L xs (k + 1)) (hF : FACE (kset M 164 S) w) (hM : MODEL S w) (hO : WOK w) (hu : kset M 164 S 172 = some (cJ 1 f)) : GL L xs (173 + k) (19306 + 6 * k) 834 [some (.ref 1000), some (.ref 0), some (.ref 164), some (.ref 172), some (.int (nI (4 * k))), a5, a6] [] (kset M 164 S) := by
  refine r_aload1 (pc := 834) dL_law_834 ?_
  refine r_aload0 (pc := 835) dL_law_835 ?_
  refine r_iload4 (pc := 836) dL_law_836 ?_
  refine n_iconst_1 (pc := 838) dL_law_838 ?_
  first | refine n_iadd (pc := 839) dL_law_839 ?_ | refine z_iadd (pc := 839) dL_law_839 ?_ | refine r_iadd (pc := 839) dL_law_839 ?_
  refine r_xald (pc := 840) rfl (by omega) dL_law_840 ?_
  refine r_aload0 (pc := 841) dL_law_841 ?_
  refine r_iload4 (pc := 842) dL_law_842 ?_
  refine n_iconst_2 (pc := 844) dL_law_844 ?_
  first | refine n_iadd (pc := 845) dL_law_845 ?_ | refine z_iadd (pc := 845) dL_law_845 ?_ | refine r_iadd (pc := 845) dL_law_845 ?_
  refine r_xald (pc := 846) rfl (by omega) dL_law_846 ?_
  refine r_aload3 (pc := 847) dL_law_847 ?_
  refine G_callSW (pc := 848) (as := [.ref 0, .int (xs (4 * k + 1)), .int (xs (4 * k + 2)), .ref 172]) (rest := []) rfl lkw_145 dL_law_848 (sL_swap hF hO hu) (by decide) rfl (by decide) ⟨by omega, by omega⟩ (fun r1 M1 h1 => ?_)
  obtain ⟨h1, k1, k2, g, k3, k4⟩ := h1
  cases h1
  obtain ⟨M2, rfl⟩ := kfr k2
  have hlt : (A_swap (xs (4 * k + 1)) (xs (4 * k + 2)) w).1 ≤ 3 := le3_swap
  have hok : WOK (A_swap (xs (4 * k + 1)) (xs (4 * k + 2)) w).2.2 := wok_swap hO
  have hmod : SpecP mX8_swap 12 0 0 [.ref 164, .int (xs (4 * k + 1)), .int (xs (4 * k + 2))] (kset M2 164 S) (tMo M2 164 (A_swap (xs (4 * k + 1)) (xs (4 * k + 2)) w)) := s8_swap hM hO
  generalize hr : A_swap (xs (4 * k + 1)) (xs (4 * k + 2)) w = r at k1 k4 hlt hok hmod ⊢
  change GL L xs (173 + k + 1) (19306 + 6 * k + 6) 851 [some (.ref 1000), some (.ref 0), some (.ref 164), some (.ref 172), some (.int (nI (4 * k))), a5, a6] [.int (nI r.1)] (kset M2 164 S)
  refine r_istore5 (pc := 851) dL_law_851 rfl ?_
  refine r_aload2 (pc := 853) dL_law_853 ?_
  refine r_aload0 (pc := 854) dL_law_854 ?_
  refine r_iload4 (pc := 855) dL_law_855 ?_
  refine n_iconst_1 (pc := 857) dL_law_857 ?_
  first | refine n_iadd (pc := 858) dL_law_858 ?_ | refine z_iadd (pc := 858) dL_law_858 ?_ | refine r_iadd (pc := 858) dL_law_858 ?_
  refine r_xald (pc := 859) rfl (by omega) dL_law_859 ?_
  refine r_aload0 (pc := 860) dL_law_860 ?_
  refine r_iload4 (pc := 861) dL_law_861 ?_
  refine n_iconst_2 (pc := 863) dL_law_863 ?_
  first | refine n_iadd (pc := 864) dL_law_864 ?_ | refine z_iadd (pc := 864) dL_law_864 ?_ | refine r_iadd (pc := 864) dL_law_864 ?_
  refine r_xald (pc := 865) rfl (by omega) dL_law_865 ?_
  refine r_callV2x (pc := 866) lk_L_147 dL_law_866 (kget0 rfl) hmod (by decide) (Nat.le_of_ble_eq_true rfl) ⟨by omega, by omega⟩ (fun M9 h9 => ?_)
  obtain ⟨S2, n1, n2, rfl⟩ := h9
  refine r_istore6 (pc := 869) dL_law_869 rfl ?_
  refine r_aload2 (pc := 871) dL_law_871 ?_
  refine r_callV0i (pc := 872) lk_L_104 dL_law_872 (kget0 rfl) (s8_thrown (M := M2) (b := 164) n2) (by decide) (Nat.le_of_ble_eq_true rfl) ⟨by omega, by omega⟩ ?_
  refine r_iload5 (pc := 875) dL_law_875 ?_
  refine r_icmp_eq (pc := 877) 882 (by decide) dL_law_877 (fun _ => ?_) (fun h => absurd rfl h)
  refine r_iload5 (pc := 882) dL_law_882 ?_
  have hu2 : kset M2 164 S2 172 = some (cJ 1 g) := k172.trans k3
  have tl : GL L xs (173 + k + 1) (19306 + 6 * k + 6) 899 [some (.ref 1000), some (.ref 0), some (.ref 164), some (.ref 172), some (.int (nI (4 * k))), some (.int (nI r.1)), some (.int r.2.1)] [] (kset M2 164 S2) := by
    refine r_goto (pc := 899) 1784 (by decide) dL_law_899 ?_
    exact lw_tail ih k1.kset n1 hok hu2 (by omega) (by omega)
  refine r_if_ne (pc := 884) 899 (by decide) dL_law_884 (fun _ => tl) (fun h9 => ?_)
  have hr0 := nI_z hlt h9
  have e9 : g (nI 0).toNatClampNeg = r.2.1.toInt64 := k4 hr0
  refine r_aload3 (pc := 887) dL_law_887 ?_
  refine n_iconst_0 (pc := 888) dL_law_888 ?_
  refine r_lald (pc := 889) dL_law_889 hu2 in01 ?_
  rw [e9]
  refine r_iload6 (pc := 890) dL_law_890 ?_
  refine r_i2l (pc := 892) dL_law_892 ?_
  refine r_lcmp (pc := 893) dL_law_893 ?_
  refine r_if_eq (pc := 894) 899 (by decide) dL_law_894 (fun _ => tl) (fun h => absurd ((lg_cmp_eq _ _).mpr rfl) h)
theorem lc_flip (hk : 4 * k + 4 ≤ L) (hL : L ≤ 2048) (ih : LINV L xs (k + 1)) (hF : FACE (kset M 164 S) w) (hM : MODEL S w) (hO : WOK w) (hu : kset M 164 S 172 = some (cJ 1 f)) : GL L xs (173 + k) (19306 + 6 * k) 902 [some (.ref 1000), some (.ref 0), some (.ref 164), some (.ref 172), some (.int (nI (4 * k))), a5, a6] [] (kset M 164 S) := by
  refine r_aload1 (pc := 902) dL_law_902 ?_
  refine r_aload0 (pc := 903) dL_law_903 ?_
  refine r_iload4 (pc := 904) dL_law_904 ?_
  refine n_iconst_1 (pc := 906) dL_law_906 ?_
  first | refine n_iadd (pc := 907) dL_law_907 ?_ | refine z_iadd (pc := 907) dL_law_907 ?_ | refine r_iadd (pc := 907) dL_law_907 ?_
  refine r_xald (pc := 908) rfl (by omega) dL_law_908 ?_
  refine r_aload0 (pc := 909) dL_law_909 ?_
  refine r_iload4 (pc := 910) dL_law_910 ?_
  refine n_iconst_2 (pc := 912) dL_law_912 ?_
  first | refine n_iadd (pc := 913) dL_law_913 ?_ | refine z_iadd (pc := 913) dL_law_913 ?_ | refine r_iadd (pc := 913) dL_law_913 ?_
  refine r_xald (pc := 914) rfl (by omega) dL_law_914 ?_
  refine r_aload3 (pc := 915) dL_law_915 ?_
  refine G_callSW (pc := 916) (as := [.ref 0, .int (xs (4 * k + 1)), .int (xs (4 * k + 2)), .ref 172]) (rest := []) rfl lkw_148 dL_law_916 (sL_flip hF hO hu) (by decide) rfl (by decide) ⟨by omega, by omega⟩ (fun r1 M1 h1 => ?_)
  obtain ⟨h1, k1, k2, g, k3, k4⟩ := h1
  cases h1
  obtain ⟨M2, rfl⟩ := kfr k2
  have hlt : (A_flip (xs (4 * k + 1)) (xs (4 * k + 2)) w).1 ≤ 3 := le3_flip
  have hok : WOK (A_flip (xs (4 * k + 1)) (xs (4 * k + 2)) w).2.2 := wok_flip hO
  have hmod : SpecP mX8_flip 12 0 0 [.ref 164, .int (xs (4 * k + 1)), .int (xs (4 * k + 2))] (kset M2 164 S) (tMo M2 164 (A_flip (xs (4 * k + 1)) (xs (4 * k + 2)) w)) := s8_flip hM hO
  generalize hr : A_flip (xs (4 * k + 1)) (xs (4 * k + 2)) w = r at k1 k4 hlt hok hmod ⊢
  change GL L xs (173 + k + 1) (19306 + 6 * k + 6) 919 [some (.ref 1000), some (.ref 0), some (.ref 164), some (.ref 172), some (.int (nI (4 * k))), a5, a6] [.int (nI r.1)] (kset M2 164 S)
  refine r_istore5 (pc := 919) dL_law_919 rfl ?_
  refine r_aload2 (pc := 921) dL_law_921 ?_
  refine r_aload0 (pc := 922) dL_law_922 ?_
  refine r_iload4 (pc := 923) dL_law_923 ?_
  refine n_iconst_1 (pc := 925) dL_law_925 ?_
  first | refine n_iadd (pc := 926) dL_law_926 ?_ | refine z_iadd (pc := 926) dL_law_926 ?_ | refine r_iadd (pc := 926) dL_law_926 ?_
  refine r_xald (pc := 927) rfl (by omega) dL_law_927 ?_
  refine r_aload0 (pc := 928) dL_law_928 ?_
  refine r_iload4 (pc := 929) dL_law_929 ?_
  refine n_iconst_2 (pc := 931) dL_law_931 ?_
  first | refine n_iadd (pc := 932) dL_law_932 ?_ | refine z_iadd (pc := 932) dL_law_932 ?_ | refine r_iadd (pc := 932) dL_law_932 ?_
  refine r_xald (pc := 933) rfl (by omega) dL_law_933 ?_
  refine r_callV2x (pc := 934) lk_L_150 dL_law_934 (kget0 rfl) hmod (by decide) (Nat.le_of_ble_eq_true rfl) ⟨by omega, by omega⟩ (fun M9 h9 => ?_)
  obtain ⟨S2, n1, n2, rfl⟩ := h9
  refine r_istore6 (pc := 937) dL_law_937 rfl ?_
  refine r_aload2 (pc := 939) dL_law_939 ?_
  refine r_callV0i (pc := 940) lk_L_104 dL_law_940 (kget0 rfl) (s8_thrown (M := M2) (b := 164) n2) (by decide) (Nat.le_of_ble_eq_true rfl) ⟨by omega, by omega⟩ ?_
  refine r_iload5 (pc := 943) dL_law_943 ?_
  refine r_icmp_eq (pc := 945) 950 (by decide) dL_law_945 (fun _ => ?_) (fun h => absurd rfl h)
  refine r_iload5 (pc := 950) dL_law_950 ?_
  have hu2 : kset M2 164 S2 172 = some (cJ 1 g) := k172.trans k3
  have tl : GL L xs (173 + k + 1) (19306 + 6 * k + 6) 967 [some (.ref 1000), some (.ref 0), some (.ref 164), some (.ref 172), some (.int (nI (4 * k))), some (.int (nI r.1)), some (.int r.2.1)] [] (kset M2 164 S2) := by
    refine r_goto (pc := 967) 1784 (by decide) dL_law_967 ?_
    exact lw_tail ih k1.kset n1 hok hu2 (by omega) (by omega)
  refine r_if_ne (pc := 952) 967 (by decide) dL_law_952 (fun _ => tl) (fun h9 => ?_)
  have hr0 := nI_z hlt h9
  have e9 : g (nI 0).toNatClampNeg = r.2.1.toInt64 := k4 hr0
  refine r_aload3 (pc := 955) dL_law_955 ?_
  refine n_iconst_0 (pc := 956) dL_law_956 ?_
  refine r_lald (pc := 957) dL_law_957 hu2 in01 ?_
  rw [e9]
  refine r_iload6 (pc := 958) dL_law_958 ?_
  refine r_i2l (pc := 960) dL_law_960 ?_
  refine r_lcmp (pc := 961) dL_law_961 ?_
  refine r_if_eq (pc := 962) 967 (by decide) dL_law_962 (fun _ => tl) (fun h => absurd ((lg_cmp_eq _ _).mpr rfl) h)
theorem lc_hold_f (hk : 4 * k + 4 ≤ L) (hL : L ≤ 2048) (ih : LINV L xs (k + 1)) (hF : FACE (kset M 164 S) w) (hM : MODEL S w) (hO : WOK w) (hu : kset M 164 S 172 = some (cJ 1 f)) (hv : xs (4 * k + 2) = 0) : GL L xs (173 + k) (19306 + 6 * k) 970 [some (.ref 1000), some (.ref 0), some (.ref 164), some (.ref 172), some (.int (nI (4 * k))), a5, a6] [] (kset M 164 S) := by
  refine r_aload1 (pc := 970) dL_law_970 ?_
  refine r_aload0 (pc := 971) dL_law_971 ?_
  refine r_iload4 (pc := 972) dL_law_972 ?_
  refine n_iconst_1 (pc := 974) dL_law_974 ?_
  first | refine n_iadd (pc := 975) dL_law_975 ?_ | refine z_iadd (pc := 975) dL_law_975 ?_ | refine r_iadd (pc := 975) dL_law_975 ?_
  refine r_xald (pc := 976) rfl (by omega) dL_law_976 ?_
  refine r_aload0 (pc := 977) dL_law_977 ?_
  refine r_iload4 (pc := 978) dL_law_978 ?_
  refine n_iconst_2 (pc := 980) dL_law_980 ?_
  first | refine n_iadd (pc := 981) dL_law_981 ?_ | refine z_iadd (pc := 981) dL_law_981 ?_ | refine r_iadd (pc := 981) dL_law_981 ?_
  refine r_xald (pc := 982) rfl (by omega) dL_law_982 ?_
  refine r_if_eq (pc := 983) 990 (by decide) dL_law_983 (fun _ => ?_) (fun h => absurd hv h)
  refine n_iconst_0 (pc := 990) dL_law_990 ?_
  refine r_aload3 (pc := 991) dL_law_991 ?_
  refine G_callSW (pc := 992) (as := [.ref 0, .int (xs (4 * k + 1)), .int (bI false), .ref 172]) (rest := []) rfl lkw_151 dL_law_992 (sL_hold hF hO hu (v := false)) (by decide) rfl (by decide) ⟨by omega, by omega⟩ (fun r1 M1 h1 => ?_)
  obtain ⟨h1, k1, k2, g, k3, k4⟩ := h1
  cases h1
  obtain ⟨M2, rfl⟩ := kfr k2
  have hlt : (A_hold (xs (4 * k + 1)) (false) w).1 ≤ 3 := le3_hold
  have hok : WOK (A_hold (xs (4 * k + 1)) (false) w).2.2 := wok_hold hO
  have hmod : SpecP mX8_hold 12 0 0 [.ref 164, .int (xs (4 * k + 1)), .int (bI false)] (kset M2 164 S) (tMo M2 164 (A_hold (xs (4 * k + 1)) (false) w)) := s8_hold hM hO
  generalize hr : A_hold (xs (4 * k + 1)) (false) w = r at k1 k4 hlt hok hmod ⊢
  change GL L xs (173 + k + 1) (19306 + 6 * k + 6) 995 [some (.ref 1000), some (.ref 0), some (.ref 164), some (.ref 172), some (.int (nI (4 * k))), a5, a6] [.int (nI r.1)] (kset M2 164 S)
  refine r_istore5 (pc := 995) dL_law_995 rfl ?_
  refine r_aload2 (pc := 997) dL_law_997 ?_
  refine r_aload0 (pc := 998) dL_law_998 ?_
  refine r_iload4 (pc := 999) dL_law_999 ?_
  refine n_iconst_1 (pc := 1001) dL_law_1001 ?_
  first | refine n_iadd (pc := 1002) dL_law_1002 ?_ | refine z_iadd (pc := 1002) dL_law_1002 ?_ | refine r_iadd (pc := 1002) dL_law_1002 ?_
  refine r_xald (pc := 1003) rfl (by omega) dL_law_1003 ?_
  refine r_aload0 (pc := 1004) dL_law_1004 ?_
  refine r_iload4 (pc := 1005) dL_law_1005 ?_
  refine n_iconst_2 (pc := 1007) dL_law_1007 ?_
  first | refine n_iadd (pc := 1008) dL_law_1008 ?_ | refine z_iadd (pc := 1008) dL_law_1008 ?_ | refine r_iadd (pc := 1008) dL_law_1008 ?_
  refine r_xald (pc := 1009) rfl (by omega) dL_law_1009 ?_
  refine r_if_eq (pc := 1010) 1017 (by decide) dL_law_1010 (fun _ => ?_) (fun h => absurd hv h)
  refine n_iconst_0 (pc := 1017) dL_law_1017 ?_
  refine r_callV2x (pc := 1018) lk_L_154 dL_law_1018 (kget0 rfl) hmod (by decide) (Nat.le_of_ble_eq_true rfl) ⟨by omega, by omega⟩ (fun M9 h9 => ?_)
  obtain ⟨S2, n1, n2, rfl⟩ := h9
  refine r_istore6 (pc := 1021) dL_law_1021 rfl ?_
  refine r_aload2 (pc := 1023) dL_law_1023 ?_
  refine r_callV0i (pc := 1024) lk_L_104 dL_law_1024 (kget0 rfl) (s8_thrown (M := M2) (b := 164) n2) (by decide) (Nat.le_of_ble_eq_true rfl) ⟨by omega, by omega⟩ ?_
  refine r_iload5 (pc := 1027) dL_law_1027 ?_
  refine r_icmp_eq (pc := 1029) 1034 (by decide) dL_law_1029 (fun _ => ?_) (fun h => absurd rfl h)
  refine r_iload5 (pc := 1034) dL_law_1034 ?_
  have hu2 : kset M2 164 S2 172 = some (cJ 1 g) := k172.trans k3
  have tl : GL L xs (173 + k + 1) (19306 + 6 * k + 6) 1051 [some (.ref 1000), some (.ref 0), some (.ref 164), some (.ref 172), some (.int (nI (4 * k))), some (.int (nI r.1)), some (.int r.2.1)] [] (kset M2 164 S2) := by
    refine r_goto (pc := 1051) 1784 (by decide) dL_law_1051 ?_
    exact lw_tail ih k1.kset n1 hok hu2 (by omega) (by omega)
  refine r_if_ne (pc := 1036) 1051 (by decide) dL_law_1036 (fun _ => tl) (fun h9 => ?_)
  have hr0 := nI_z hlt h9
  have e9 : g (nI 0).toNatClampNeg = r.2.1.toInt64 := k4 hr0
  refine r_aload3 (pc := 1039) dL_law_1039 ?_
  refine n_iconst_0 (pc := 1040) dL_law_1040 ?_
  refine r_lald (pc := 1041) dL_law_1041 hu2 in01 ?_
  rw [e9]
  refine r_iload6 (pc := 1042) dL_law_1042 ?_
  refine r_i2l (pc := 1044) dL_law_1044 ?_
  refine r_lcmp (pc := 1045) dL_law_1045 ?_
  refine r_if_eq (pc := 1046) 1051 (by decide) dL_law_1046 (fun _ => tl) (fun h => absurd ((lg_cmp_eq _ _).mpr rfl) h)
theorem lc_hold_t (hk : 4 * k + 4 ≤ L) (hL : L ≤ 2048) (ih : LINV L xs (k + 1)) (hF : FACE (kset M 164 S) w) (hM : MODEL S w) (hO : WOK w) (hu : kset M 164 S 172 = some (cJ 1 f)) (hv : ¬ xs (4 * k + 2) = 0) : GL L xs (173 + k) (19306 + 6 * k) 970 [some (.ref 1000), some (.ref 0), some (.ref 164), some (.ref 172), some (.int (nI (4 * k))), a5, a6] [] (kset M 164 S) := by
  refine r_aload1 (pc := 970) dL_law_970 ?_
  refine r_aload0 (pc := 971) dL_law_971 ?_
  refine r_iload4 (pc := 972) dL_law_972 ?_
  refine n_iconst_1 (pc := 974) dL_law_974 ?_
  first | refine n_iadd (pc := 975) dL_law_975 ?_ | refine z_iadd (pc := 975) dL_law_975 ?_ | refine r_iadd (pc := 975) dL_law_975 ?_
  refine r_xald (pc := 976) rfl (by omega) dL_law_976 ?_
  refine r_aload0 (pc := 977) dL_law_977 ?_
  refine r_iload4 (pc := 978) dL_law_978 ?_
  refine n_iconst_2 (pc := 980) dL_law_980 ?_
  first | refine n_iadd (pc := 981) dL_law_981 ?_ | refine z_iadd (pc := 981) dL_law_981 ?_ | refine r_iadd (pc := 981) dL_law_981 ?_
  refine r_xald (pc := 982) rfl (by omega) dL_law_982 ?_
  refine r_if_eq (pc := 983) 990 (by decide) dL_law_983 (fun h => absurd h hv) (fun _ => ?_)
  refine n_iconst_1 (pc := 986) dL_law_986 ?_
  refine r_goto (pc := 987) 991 (by decide) dL_law_987 ?_
  refine r_aload3 (pc := 991) dL_law_991 ?_
  refine G_callSW (pc := 992) (as := [.ref 0, .int (xs (4 * k + 1)), .int (bI true), .ref 172]) (rest := []) rfl lkw_151 dL_law_992 (sL_hold hF hO hu (v := true)) (by decide) rfl (by decide) ⟨by omega, by omega⟩ (fun r1 M1 h1 => ?_)
  obtain ⟨h1, k1, k2, g, k3, k4⟩ := h1
  cases h1
  obtain ⟨M2, rfl⟩ := kfr k2
  have hlt : (A_hold (xs (4 * k + 1)) (true) w).1 ≤ 3 := le3_hold
  have hok : WOK (A_hold (xs (4 * k + 1)) (true) w).2.2 := wok_hold hO
  have hmod : SpecP mX8_hold 12 0 0 [.ref 164, .int (xs (4 * k + 1)), .int (bI true)] (kset M2 164 S) (tMo M2 164 (A_hold (xs (4 * k + 1)) (true) w)) := s8_hold hM hO
  generalize hr : A_hold (xs (4 * k + 1)) (true) w = r at k1 k4 hlt hok hmod ⊢
  change GL L xs (173 + k + 1) (19306 + 6 * k + 6) 995 [some (.ref 1000), some (.ref 0), some (.ref 164), some (.ref 172), some (.int (nI (4 * k))), a5, a6] [.int (nI r.1)] (kset M2 164 S)
  refine r_istore5 (pc := 995) dL_law_995 rfl ?_
  refine r_aload2 (pc := 997) dL_law_997 ?_
  refine r_aload0 (pc := 998) dL_law_998 ?_
  refine r_iload4 (pc := 999) dL_law_999 ?_
  refine n_iconst_1 (pc := 1001) dL_law_1001 ?_
  first | refine n_iadd (pc := 1002) dL_law_1002 ?_ | refine z_iadd (pc := 1002) dL_law_1002 ?_ | refine r_iadd (pc := 1002) dL_law_1002 ?_
  refine r_xald (pc := 1003) rfl (by omega) dL_law_1003 ?_
  refine r_aload0 (pc := 1004) dL_law_1004 ?_
  refine r_iload4 (pc := 1005) dL_law_1005 ?_
  refine n_iconst_2 (pc := 1007) dL_law_1007 ?_
  first | refine n_iadd (pc := 1008) dL_law_1008 ?_ | refine z_iadd (pc := 1008) dL_law_1008 ?_ | refine r_iadd (pc := 1008) dL_law_1008 ?_
  refine r_xald (pc := 1009) rfl (by omega) dL_law_1009 ?_
  refine r_if_eq (pc := 1010) 1017 (by decide) dL_law_1010 (fun h => absurd h hv) (fun _ => ?_)
  refine n_iconst_1 (pc := 1013) dL_law_1013 ?_
  refine r_goto (pc := 1014) 1018 (by decide) dL_law_1014 ?_
  refine r_callV2x (pc := 1018) lk_L_154 dL_law_1018 (kget0 rfl) hmod (by decide) (Nat.le_of_ble_eq_true rfl) ⟨by omega, by omega⟩ (fun M9 h9 => ?_)
  obtain ⟨S2, n1, n2, rfl⟩ := h9
  refine r_istore6 (pc := 1021) dL_law_1021 rfl ?_
  refine r_aload2 (pc := 1023) dL_law_1023 ?_
  refine r_callV0i (pc := 1024) lk_L_104 dL_law_1024 (kget0 rfl) (s8_thrown (M := M2) (b := 164) n2) (by decide) (Nat.le_of_ble_eq_true rfl) ⟨by omega, by omega⟩ ?_
  refine r_iload5 (pc := 1027) dL_law_1027 ?_
  refine r_icmp_eq (pc := 1029) 1034 (by decide) dL_law_1029 (fun _ => ?_) (fun h => absurd rfl h)
  refine r_iload5 (pc := 1034) dL_law_1034 ?_
  have hu2 : kset M2 164 S2 172 = some (cJ 1 g) := k172.trans k3
  have tl : GL L xs (173 + k + 1) (19306 + 6 * k + 6) 1051 [some (.ref 1000), some (.ref 0), some (.ref 164), some (.ref 172), some (.int (nI (4 * k))), some (.int (nI r.1)), some (.int r.2.1)] [] (kset M2 164 S2) := by
    refine r_goto (pc := 1051) 1784 (by decide) dL_law_1051 ?_
    exact lw_tail ih k1.kset n1 hok hu2 (by omega) (by omega)
  refine r_if_ne (pc := 1036) 1051 (by decide) dL_law_1036 (fun _ => tl) (fun h9 => ?_)
  have hr0 := nI_z hlt h9
  have e9 : g (nI 0).toNatClampNeg = r.2.1.toInt64 := k4 hr0
  refine r_aload3 (pc := 1039) dL_law_1039 ?_
  refine n_iconst_0 (pc := 1040) dL_law_1040 ?_
  refine r_lald (pc := 1041) dL_law_1041 hu2 in01 ?_
  rw [e9]
  refine r_iload6 (pc := 1042) dL_law_1042 ?_
  refine r_i2l (pc := 1044) dL_law_1044 ?_
  refine r_lcmp (pc := 1045) dL_law_1045 ?_
  refine r_if_eq (pc := 1046) 1051 (by decide) dL_law_1046 (fun _ => tl) (fun h => absurd ((lg_cmp_eq _ _).mpr rfl) h)
theorem lc_lay (hk : 4 * k + 4 ≤ L) (hL : L ≤ 2048) (ih : LINV L xs (k + 1)) (hF : FACE (kset M 164 S) w) (hM : MODEL S w) (hO : WOK w) (hu : kset M 164 S 172 = some (cJ 1 f)) : GL L xs (173 + k) (19306 + 6 * k) 1054 [some (.ref 1000), some (.ref 0), some (.ref 164), some (.ref 172), some (.int (nI (4 * k))), a5, a6] [] (kset M 164 S) := by
  refine r_aload1 (pc := 1054) dL_law_1054 ?_
  refine G_callV (pc := 1055) (as := []) (rest := []) lk_L_155 dL_law_1055 (show kset M 164 S 0 = some (cO 6 [.ref 1, .ref 23, .ref 45, .ref 145, .ref 162]) from hF.1) (s7_lay hF hO) (by decide) rfl (by decide) ⟨by omega, by omega⟩ (Or.inl rfl) (fun r1 M1 h1 => ?_)
  obtain ⟨k1, k2, k3, h1⟩ := h1
  cases h1
  obtain ⟨M2, rfl⟩ := kfr (fun i a _ => k2 i a)
  have hok := wok_lay hO
  have hmod := s8_lay (M := M2) (b := 164) (S := S) hM hO
  have hu2 := (k2 172 (by decide)).trans hu
  generalize hr : A_lay w = r at k1 hok hmod ⊢
  change GL L xs (173 + k + 0) (19306 + 6 * k + 0) 1058 [some (.ref 1000), some (.ref 0), some (.ref 164), some (.ref 172), some (.int (nI (4 * k))), a5, a6] [.int r.2.1] (kset M2 164 S)
  refine r_aload2 (pc := 1058) dL_law_1058 ?_
  refine r_callV0x (pc := 1059) lk_L_158 dL_law_1059 (kget0 rfl) hmod (by decide) (Nat.le_of_ble_eq_true rfl) ⟨by omega, by omega⟩ (fun M9 h9 => ?_)
  obtain ⟨S2, n1, n2, rfl⟩ := h9
  refine r_icmp_eq (pc := 1062) 1784 (by decide) dL_law_1062 (fun _ => ?_) (fun h => absurd rfl h)
  exact lw_tail ih k1.kset n1 hok (k172.trans hu2) (by omega) (by omega)
theorem lc_improve (hk : 4 * k + 4 ≤ L) (hL : L ≤ 2048) (ih : LINV L xs (k + 1)) (hF : FACE (kset M 164 S) w) (hM : MODEL S w) (hO : WOK w) (hu : kset M 164 S 172 = some (cJ 1 f)) : GL L xs (173 + k) (19306 + 6 * k) 1067 [some (.ref 1000), some (.ref 0), some (.ref 164), some (.ref 172), some (.int (nI (4 * k))), a5, a6] [] (kset M 164 S) := by
  refine r_aload1 (pc := 1067) dL_law_1067 ?_
  refine r_aload0 (pc := 1068) dL_law_1068 ?_
  refine r_iload4 (pc := 1069) dL_law_1069 ?_
  refine n_iconst_1 (pc := 1071) dL_law_1071 ?_
  first | refine n_iadd (pc := 1072) dL_law_1072 ?_ | refine z_iadd (pc := 1072) dL_law_1072 ?_ | refine r_iadd (pc := 1072) dL_law_1072 ?_
  refine r_xald (pc := 1073) rfl (by omega) dL_law_1073 ?_
  refine r_aload3 (pc := 1074) dL_law_1074 ?_
  refine G_callSW (pc := 1075) (as := [.ref 0, .int (xs (4 * k + 1)), .ref 172]) (rest := []) rfl lkw_159 dL_law_1075 (sL_improve hF hO hu) (by decide) rfl (by decide) ⟨by omega, by omega⟩ (fun r1 M1 h1 => ?_)
  obtain ⟨h1, k1, k2, g, k3, k4⟩ := h1
  cases h1
  obtain ⟨M2, rfl⟩ := kfr k2
  have hlt : (A_improve (xs (4 * k + 1)) w).1 ≤ 3 := le3_improve
  have hok : WOK (A_improve (xs (4 * k + 1)) w).2.2 := wok_improve hO
  have hmod : SpecP mX8_improve 12 0 0 [.ref 164, .int (xs (4 * k + 1))] (kset M2 164 S) (tMo M2 164 (A_improve (xs (4 * k + 1)) w)) := s8_improve hM hO
  generalize hr : A_improve (xs (4 * k + 1)) w = r at k1 k4 hlt hok hmod ⊢
  change GL L xs (173 + k + 1) (19306 + 6 * k + 6) 1078 [some (.ref 1000), some (.ref 0), some (.ref 164), some (.ref 172), some (.int (nI (4 * k))), a5, a6] [.int (nI r.1)] (kset M2 164 S)
  refine r_istore5 (pc := 1078) dL_law_1078 rfl ?_
  refine r_aload2 (pc := 1080) dL_law_1080 ?_
  refine r_aload0 (pc := 1081) dL_law_1081 ?_
  refine r_iload4 (pc := 1082) dL_law_1082 ?_
  refine n_iconst_1 (pc := 1084) dL_law_1084 ?_
  first | refine n_iadd (pc := 1085) dL_law_1085 ?_ | refine z_iadd (pc := 1085) dL_law_1085 ?_ | refine r_iadd (pc := 1085) dL_law_1085 ?_
  refine r_xald (pc := 1086) rfl (by omega) dL_law_1086 ?_
  refine r_callV1x (pc := 1087) lk_L_161 dL_law_1087 (kget0 rfl) hmod (by decide) (Nat.le_of_ble_eq_true rfl) ⟨by omega, by omega⟩ (fun M9 h9 => ?_)
  obtain ⟨S2, n1, n2, rfl⟩ := h9
  refine r_istore6 (pc := 1090) dL_law_1090 rfl ?_
  refine r_aload2 (pc := 1092) dL_law_1092 ?_
  refine r_callV0i (pc := 1093) lk_L_104 dL_law_1093 (kget0 rfl) (s8_thrown (M := M2) (b := 164) n2) (by decide) (Nat.le_of_ble_eq_true rfl) ⟨by omega, by omega⟩ ?_
  refine r_iload5 (pc := 1096) dL_law_1096 ?_
  refine r_icmp_eq (pc := 1098) 1103 (by decide) dL_law_1098 (fun _ => ?_) (fun h => absurd rfl h)
  refine r_iload5 (pc := 1103) dL_law_1103 ?_
  have hu2 : kset M2 164 S2 172 = some (cJ 1 g) := k172.trans k3
  have tl : GL L xs (173 + k + 1) (19306 + 6 * k + 6) 1120 [some (.ref 1000), some (.ref 0), some (.ref 164), some (.ref 172), some (.int (nI (4 * k))), some (.int (nI r.1)), some (.int r.2.1)] [] (kset M2 164 S2) := by
    refine r_goto (pc := 1120) 1784 (by decide) dL_law_1120 ?_
    exact lw_tail ih k1.kset n1 hok hu2 (by omega) (by omega)
  refine r_if_ne (pc := 1105) 1120 (by decide) dL_law_1105 (fun _ => tl) (fun h9 => ?_)
  have hr0 := nI_z hlt h9
  have e9 : g (nI 0).toNatClampNeg = r.2.1.toInt64 := k4 hr0
  refine r_aload3 (pc := 1108) dL_law_1108 ?_
  refine n_iconst_0 (pc := 1109) dL_law_1109 ?_
  refine r_lald (pc := 1110) dL_law_1110 hu2 in01 ?_
  rw [e9]
  refine r_iload6 (pc := 1111) dL_law_1111 ?_
  refine r_i2l (pc := 1113) dL_law_1113 ?_
  refine r_lcmp (pc := 1114) dL_law_1114 ?_
  refine r_if_eq (pc := 1115) 1120 (by decide) dL_law_1115 (fun _ => tl) (fun h => absurd ((lg_cmp_eq _ _).mpr rfl) h)
theorem lc_undo (hk : 4 * k + 4 ≤ L) (hL : L ≤ 2048) (ih : LINV L xs (k + 1)) (hF : FACE (kset M 164 S) w) (hM : MODEL S w) (hO : WOK w) (hu : kset M 164 S 172 = some (cJ 1 f)) : GL L xs (173 + k) (19306 + 6 * k) 1123 [some (.ref 1000), some (.ref 0), some (.ref 164), some (.ref 172), some (.int (nI (4 * k))), a5, a6] [] (kset M 164 S) := by
  refine r_aload1 (pc := 1123) dL_law_1123 ?_
  refine r_aload3 (pc := 1124) dL_law_1124 ?_
  refine G_callSW (pc := 1125) (as := [.ref 0, .ref 172]) (rest := []) rfl lkw_162 dL_law_1125 (sL_undo hF hO hu) (by decide) rfl (by decide) ⟨by omega, by omega⟩ (fun r1 M1 h1 => ?_)
  obtain ⟨h1, k1, k2, g, k3, k4⟩ := h1
  cases h1
  obtain ⟨M2, rfl⟩ := kfr k2
  have hlt : (A_undo w).1 ≤ 3 := le3_undo
  have hok : WOK (A_undo w).2.2 := wok_undo hO
  have hmod : SpecP mX8_undo 12 0 0 [.ref 164] (kset M2 164 S) (tMo M2 164 (A_undo w)) := s8_undo hM hO
  generalize hr : A_undo w = r at k1 k4 hlt hok hmod ⊢
  change GL L xs (173 + k + 1) (19306 + 6 * k + 6) 1128 [some (.ref 1000), some (.ref 0), some (.ref 164), some (.ref 172), some (.int (nI (4 * k))), a5, a6] [.int (nI r.1)] (kset M2 164 S)
  refine r_istore5 (pc := 1128) dL_law_1128 rfl ?_
  refine r_aload2 (pc := 1130) dL_law_1130 ?_
  refine r_callV0x (pc := 1131) lk_L_164 dL_law_1131 (kget0 rfl) hmod (by decide) (Nat.le_of_ble_eq_true rfl) ⟨by omega, by omega⟩ (fun M9 h9 => ?_)
  obtain ⟨S2, n1, n2, rfl⟩ := h9
  refine r_istore6 (pc := 1134) dL_law_1134 rfl ?_
  refine r_aload2 (pc := 1136) dL_law_1136 ?_
  refine r_callV0i (pc := 1137) lk_L_104 dL_law_1137 (kget0 rfl) (s8_thrown (M := M2) (b := 164) n2) (by decide) (Nat.le_of_ble_eq_true rfl) ⟨by omega, by omega⟩ ?_
  refine r_iload5 (pc := 1140) dL_law_1140 ?_
  refine r_icmp_eq (pc := 1142) 1147 (by decide) dL_law_1142 (fun _ => ?_) (fun h => absurd rfl h)
  refine r_iload5 (pc := 1147) dL_law_1147 ?_
  have hu2 : kset M2 164 S2 172 = some (cJ 1 g) := k172.trans k3
  have tl : GL L xs (173 + k + 1) (19306 + 6 * k + 6) 1164 [some (.ref 1000), some (.ref 0), some (.ref 164), some (.ref 172), some (.int (nI (4 * k))), some (.int (nI r.1)), some (.int r.2.1)] [] (kset M2 164 S2) := by
    refine r_goto (pc := 1164) 1784 (by decide) dL_law_1164 ?_
    exact lw_tail ih k1.kset n1 hok hu2 (by omega) (by omega)
  refine r_if_ne (pc := 1149) 1164 (by decide) dL_law_1149 (fun _ => tl) (fun h9 => ?_)
  have hr0 := nI_z hlt h9
  have e9 : g (nI 0).toNatClampNeg = r.2.1.toInt64 := k4 hr0
  refine r_aload3 (pc := 1152) dL_law_1152 ?_
  refine n_iconst_0 (pc := 1153) dL_law_1153 ?_
  refine r_lald (pc := 1154) dL_law_1154 hu2 in01 ?_
  rw [e9]
  refine r_iload6 (pc := 1155) dL_law_1155 ?_
  refine r_i2l (pc := 1157) dL_law_1157 ?_
  refine r_lcmp (pc := 1158) dL_law_1158 ?_
  refine r_if_eq (pc := 1159) 1164 (by decide) dL_law_1159 (fun _ => tl) (fun h => absurd ((lg_cmp_eq _ _).mpr rfl) h)
theorem lc_gain (hk : 4 * k + 4 ≤ L) (hL : L ≤ 2048) (ih : LINV L xs (k + 1)) (hF : FACE (kset M 164 S) w) (hM : MODEL S w) (hO : WOK w) (hu : kset M 164 S 172 = some (cJ 1 f)) : GL L xs (173 + k) (19306 + 6 * k) 1167 [some (.ref 1000), some (.ref 0), some (.ref 164), some (.ref 172), some (.int (nI (4 * k))), a5, a6] [] (kset M 164 S) := by
  refine r_aload1 (pc := 1167) dL_law_1167 ?_
  refine r_aload0 (pc := 1168) dL_law_1168 ?_
  refine r_iload4 (pc := 1169) dL_law_1169 ?_
  refine n_iconst_1 (pc := 1171) dL_law_1171 ?_
  first | refine n_iadd (pc := 1172) dL_law_1172 ?_ | refine z_iadd (pc := 1172) dL_law_1172 ?_ | refine r_iadd (pc := 1172) dL_law_1172 ?_
  refine r_xald (pc := 1173) rfl (by omega) dL_law_1173 ?_
  refine r_aload3 (pc := 1174) dL_law_1174 ?_
  refine G_callSW (pc := 1175) (as := [.ref 0, .int (xs (4 * k + 1)), .ref 172]) (rest := []) rfl lkw_165 dL_law_1175 (sL_gain hF hO hu) (by decide) rfl (by decide) ⟨by omega, by omega⟩ (fun r1 M1 h1 => ?_)
  obtain ⟨h1, k1, k2, g, k3, k4⟩ := h1
  cases h1
  obtain ⟨M2, rfl⟩ := kfr k2
  have hlt : (A_gain (xs (4 * k + 1)) w).1 ≤ 3 := le3_gain
  have hok : WOK (A_gain (xs (4 * k + 1)) w).2.2 := wok_gain hO
  have hmod : SpecP mX8_gain 12 0 0 [.ref 164, .int (xs (4 * k + 1))] (kset M2 164 S) (tMo M2 164 (A_gain (xs (4 * k + 1)) w)) := s8_gain hM hO
  generalize hr : A_gain (xs (4 * k + 1)) w = r at k1 k4 hlt hok hmod ⊢
  change GL L xs (173 + k + 1) (19306 + 6 * k + 6) 1178 [some (.ref 1000), some (.ref 0), some (.ref 164), some (.ref 172), some (.int (nI (4 * k))), a5, a6] [.int (nI r.1)] (kset M2 164 S)
  refine r_istore5 (pc := 1178) dL_law_1178 rfl ?_
  refine r_aload2 (pc := 1180) dL_law_1180 ?_
  refine r_aload0 (pc := 1181) dL_law_1181 ?_
  refine r_iload4 (pc := 1182) dL_law_1182 ?_
  refine n_iconst_1 (pc := 1184) dL_law_1184 ?_
  first | refine n_iadd (pc := 1185) dL_law_1185 ?_ | refine z_iadd (pc := 1185) dL_law_1185 ?_ | refine r_iadd (pc := 1185) dL_law_1185 ?_
  refine r_xald (pc := 1186) rfl (by omega) dL_law_1186 ?_
  refine r_callV1x (pc := 1187) lk_L_167 dL_law_1187 (kget0 rfl) hmod (by decide) (Nat.le_of_ble_eq_true rfl) ⟨by omega, by omega⟩ (fun M9 h9 => ?_)
  obtain ⟨S2, n1, n2, rfl⟩ := h9
  refine r_istore6 (pc := 1190) dL_law_1190 rfl ?_
  refine r_aload2 (pc := 1192) dL_law_1192 ?_
  refine r_callV0i (pc := 1193) lk_L_104 dL_law_1193 (kget0 rfl) (s8_thrown (M := M2) (b := 164) n2) (by decide) (Nat.le_of_ble_eq_true rfl) ⟨by omega, by omega⟩ ?_
  refine r_iload5 (pc := 1196) dL_law_1196 ?_
  refine r_icmp_eq (pc := 1198) 1203 (by decide) dL_law_1198 (fun _ => ?_) (fun h => absurd rfl h)
  refine r_iload5 (pc := 1203) dL_law_1203 ?_
  have hu2 : kset M2 164 S2 172 = some (cJ 1 g) := k172.trans k3
  have tl : GL L xs (173 + k + 1) (19306 + 6 * k + 6) 1220 [some (.ref 1000), some (.ref 0), some (.ref 164), some (.ref 172), some (.int (nI (4 * k))), some (.int (nI r.1)), some (.int r.2.1)] [] (kset M2 164 S2) := by
    refine r_goto (pc := 1220) 1784 (by decide) dL_law_1220 ?_
    exact lw_tail ih k1.kset n1 hok hu2 (by omega) (by omega)
  refine r_if_ne (pc := 1205) 1220 (by decide) dL_law_1205 (fun _ => tl) (fun h9 => ?_)
  have hr0 := nI_z hlt h9
  have e9 : g (nI 0).toNatClampNeg = r.2.1.toInt64 := k4 hr0
  refine r_aload3 (pc := 1208) dL_law_1208 ?_
  refine n_iconst_0 (pc := 1209) dL_law_1209 ?_
  refine r_lald (pc := 1210) dL_law_1210 hu2 in01 ?_
  rw [e9]
  refine r_iload6 (pc := 1211) dL_law_1211 ?_
  refine r_i2l (pc := 1213) dL_law_1213 ?_
  refine r_lcmp (pc := 1214) dL_law_1214 ?_
  refine r_if_eq (pc := 1215) 1220 (by decide) dL_law_1215 (fun _ => tl) (fun h => absurd ((lg_cmp_eq _ _).mpr rfl) h)
theorem lc_best (hk : 4 * k + 4 ≤ L) (hL : L ≤ 2048) (ih : LINV L xs (k + 1)) (hF : FACE (kset M 164 S) w) (hM : MODEL S w) (hO : WOK w) (hu : kset M 164 S 172 = some (cJ 1 f)) : GL L xs (173 + k) (19306 + 6 * k) 1223 [some (.ref 1000), some (.ref 0), some (.ref 164), some (.ref 172), some (.int (nI (4 * k))), a5, a6] [] (kset M 164 S) := by
  refine r_aload1 (pc := 1223) dL_law_1223 ?_
  refine r_aload0 (pc := 1224) dL_law_1224 ?_
  refine r_iload4 (pc := 1225) dL_law_1225 ?_
  refine n_iconst_1 (pc := 1227) dL_law_1227 ?_
  first | refine n_iadd (pc := 1228) dL_law_1228 ?_ | refine z_iadd (pc := 1228) dL_law_1228 ?_ | refine r_iadd (pc := 1228) dL_law_1228 ?_
  refine r_xald (pc := 1229) rfl (by omega) dL_law_1229 ?_
  refine r_aload3 (pc := 1230) dL_law_1230 ?_
  refine G_callSW (pc := 1231) (as := [.ref 0, .int (xs (4 * k + 1)), .ref 172]) (rest := []) rfl lkw_168 dL_law_1231 (sL_best hF hO hu) (by decide) rfl (by decide) ⟨by omega, by omega⟩ (fun r1 M1 h1 => ?_)
  obtain ⟨h1, k1, k2, g, k3, k4⟩ := h1
  cases h1
  obtain ⟨M2, rfl⟩ := kfr k2
  have hlt : (A_best (xs (4 * k + 1)) w).1 ≤ 3 := le3_best
  have hok : WOK (A_best (xs (4 * k + 1)) w).2.2 := wok_best hO
  have hmod : SpecP mX8_best 12 0 0 [.ref 164, .int (xs (4 * k + 1))] (kset M2 164 S) (tMo M2 164 (A_best (xs (4 * k + 1)) w)) := s8_best hM hO
  generalize hr : A_best (xs (4 * k + 1)) w = r at k1 k4 hlt hok hmod ⊢
  change GL L xs (173 + k + 1) (19306 + 6 * k + 6) 1234 [some (.ref 1000), some (.ref 0), some (.ref 164), some (.ref 172), some (.int (nI (4 * k))), a5, a6] [.int (nI r.1)] (kset M2 164 S)
  refine r_istore5 (pc := 1234) dL_law_1234 rfl ?_
  refine r_aload2 (pc := 1236) dL_law_1236 ?_
  refine r_aload0 (pc := 1237) dL_law_1237 ?_
  refine r_iload4 (pc := 1238) dL_law_1238 ?_
  refine n_iconst_1 (pc := 1240) dL_law_1240 ?_
  first | refine n_iadd (pc := 1241) dL_law_1241 ?_ | refine z_iadd (pc := 1241) dL_law_1241 ?_ | refine r_iadd (pc := 1241) dL_law_1241 ?_
  refine r_xald (pc := 1242) rfl (by omega) dL_law_1242 ?_
  refine r_callV1x (pc := 1243) lk_L_170 dL_law_1243 (kget0 rfl) hmod (by decide) (Nat.le_of_ble_eq_true rfl) ⟨by omega, by omega⟩ (fun M9 h9 => ?_)
  obtain ⟨S2, n1, n2, rfl⟩ := h9
  refine r_istore6 (pc := 1246) dL_law_1246 rfl ?_
  refine r_aload2 (pc := 1248) dL_law_1248 ?_
  refine r_callV0i (pc := 1249) lk_L_104 dL_law_1249 (kget0 rfl) (s8_thrown (M := M2) (b := 164) n2) (by decide) (Nat.le_of_ble_eq_true rfl) ⟨by omega, by omega⟩ ?_
  refine r_iload5 (pc := 1252) dL_law_1252 ?_
  refine r_icmp_eq (pc := 1254) 1259 (by decide) dL_law_1254 (fun _ => ?_) (fun h => absurd rfl h)
  refine r_iload5 (pc := 1259) dL_law_1259 ?_
  have hu2 : kset M2 164 S2 172 = some (cJ 1 g) := k172.trans k3
  have tl : GL L xs (173 + k + 1) (19306 + 6 * k + 6) 1276 [some (.ref 1000), some (.ref 0), some (.ref 164), some (.ref 172), some (.int (nI (4 * k))), some (.int (nI r.1)), some (.int r.2.1)] [] (kset M2 164 S2) := by
    refine r_goto (pc := 1276) 1784 (by decide) dL_law_1276 ?_
    exact lw_tail ih k1.kset n1 hok hu2 (by omega) (by omega)
  refine r_if_ne (pc := 1261) 1276 (by decide) dL_law_1261 (fun _ => tl) (fun h9 => ?_)
  have hr0 := nI_z hlt h9
  have e9 : g (nI 0).toNatClampNeg = r.2.1.toInt64 := k4 hr0
  refine r_aload3 (pc := 1264) dL_law_1264 ?_
  refine n_iconst_0 (pc := 1265) dL_law_1265 ?_
  refine r_lald (pc := 1266) dL_law_1266 hu2 in01 ?_
  rw [e9]
  refine r_iload6 (pc := 1267) dL_law_1267 ?_
  refine r_i2l (pc := 1269) dL_law_1269 ?_
  refine r_lcmp (pc := 1270) dL_law_1270 ?_
  refine r_if_eq (pc := 1271) 1276 (by decide) dL_law_1271 (fun _ => tl) (fun h => absurd ((lg_cmp_eq _ _).mpr rfl) h)
theorem lc_ifImproved (hk : 4 * k + 4 ≤ L) (hL : L ≤ 2048) (ih : LINV L xs (k + 1)) (hF : FACE (kset M 164 S) w) (hM : MODEL S w) (hO : WOK w) (hu : kset M 164 S 172 = some (cJ 1 f)) : GL L xs (173 + k) (19306 + 6 * k) 1279 [some (.ref 1000), some (.ref 0), some (.ref 164), some (.ref 172), some (.int (nI (4 * k))), a5, a6] [] (kset M 164 S) := by
  refine r_aload1 (pc := 1279) dL_law_1279 ?_
  refine r_aload0 (pc := 1280) dL_law_1280 ?_
  refine r_iload4 (pc := 1281) dL_law_1281 ?_
  refine n_iconst_1 (pc := 1283) dL_law_1283 ?_
  first | refine n_iadd (pc := 1284) dL_law_1284 ?_ | refine z_iadd (pc := 1284) dL_law_1284 ?_ | refine r_iadd (pc := 1284) dL_law_1284 ?_
  refine r_xald (pc := 1285) rfl (by omega) dL_law_1285 ?_
  refine r_aload0 (pc := 1286) dL_law_1286 ?_
  refine r_iload4 (pc := 1287) dL_law_1287 ?_
  refine n_iconst_2 (pc := 1289) dL_law_1289 ?_
  first | refine n_iadd (pc := 1290) dL_law_1290 ?_ | refine z_iadd (pc := 1290) dL_law_1290 ?_ | refine r_iadd (pc := 1290) dL_law_1290 ?_
  refine r_xald (pc := 1291) rfl (by omega) dL_law_1291 ?_
  refine r_aload3 (pc := 1292) dL_law_1292 ?_
  refine G_callSW (pc := 1293) (as := [.ref 0, .int (xs (4 * k + 1)), .int (xs (4 * k + 2)), .ref 172]) (rest := []) rfl lkw_171 dL_law_1293 (sL_ifImproved hF hO hu) (by decide) rfl (by decide) ⟨by omega, by omega⟩ (fun r1 M1 h1 => ?_)
  obtain ⟨h1, k1, k2, g, k3, k4⟩ := h1
  cases h1
  obtain ⟨M2, rfl⟩ := kfr k2
  have hlt : (A_ifImproved (xs (4 * k + 1)) (xs (4 * k + 2)) w).1 ≤ 3 := le3_ifImproved
  have hok : WOK (A_ifImproved (xs (4 * k + 1)) (xs (4 * k + 2)) w).2.2 := wok_ifImproved hO
  have hmod : SpecP mX8_ifImproved 12 0 0 [.ref 164, .int (xs (4 * k + 1)), .int (xs (4 * k + 2))] (kset M2 164 S) (tMo M2 164 (A_ifImproved (xs (4 * k + 1)) (xs (4 * k + 2)) w)) := s8_ifImproved hM hO
  generalize hr : A_ifImproved (xs (4 * k + 1)) (xs (4 * k + 2)) w = r at k1 k4 hlt hok hmod ⊢
  change GL L xs (173 + k + 1) (19306 + 6 * k + 6) 1296 [some (.ref 1000), some (.ref 0), some (.ref 164), some (.ref 172), some (.int (nI (4 * k))), a5, a6] [.int (nI r.1)] (kset M2 164 S)
  refine r_istore5 (pc := 1296) dL_law_1296 rfl ?_
  refine r_aload2 (pc := 1298) dL_law_1298 ?_
  refine r_aload0 (pc := 1299) dL_law_1299 ?_
  refine r_iload4 (pc := 1300) dL_law_1300 ?_
  refine n_iconst_1 (pc := 1302) dL_law_1302 ?_
  first | refine n_iadd (pc := 1303) dL_law_1303 ?_ | refine z_iadd (pc := 1303) dL_law_1303 ?_ | refine r_iadd (pc := 1303) dL_law_1303 ?_
  refine r_xald (pc := 1304) rfl (by omega) dL_law_1304 ?_
  refine r_aload0 (pc := 1305) dL_law_1305 ?_
  refine r_iload4 (pc := 1306) dL_law_1306 ?_
  refine n_iconst_2 (pc := 1308) dL_law_1308 ?_
  first | refine n_iadd (pc := 1309) dL_law_1309 ?_ | refine z_iadd (pc := 1309) dL_law_1309 ?_ | refine r_iadd (pc := 1309) dL_law_1309 ?_
  refine r_xald (pc := 1310) rfl (by omega) dL_law_1310 ?_
  refine r_callV2x (pc := 1311) lk_L_173 dL_law_1311 (kget0 rfl) hmod (by decide) (Nat.le_of_ble_eq_true rfl) ⟨by omega, by omega⟩ (fun M9 h9 => ?_)
  obtain ⟨S2, n1, n2, rfl⟩ := h9
  refine r_istore6 (pc := 1314) dL_law_1314 rfl ?_
  refine r_aload2 (pc := 1316) dL_law_1316 ?_
  refine r_callV0i (pc := 1317) lk_L_104 dL_law_1317 (kget0 rfl) (s8_thrown (M := M2) (b := 164) n2) (by decide) (Nat.le_of_ble_eq_true rfl) ⟨by omega, by omega⟩ ?_
  refine r_iload5 (pc := 1320) dL_law_1320 ?_
  refine r_icmp_eq (pc := 1322) 1327 (by decide) dL_law_1322 (fun _ => ?_) (fun h => absurd rfl h)
  refine r_iload5 (pc := 1327) dL_law_1327 ?_
  have hu2 : kset M2 164 S2 172 = some (cJ 1 g) := k172.trans k3
  have tl : GL L xs (173 + k + 1) (19306 + 6 * k + 6) 1344 [some (.ref 1000), some (.ref 0), some (.ref 164), some (.ref 172), some (.int (nI (4 * k))), some (.int (nI r.1)), some (.int r.2.1)] [] (kset M2 164 S2) := by
    refine r_goto (pc := 1344) 1784 (by decide) dL_law_1344 ?_
    exact lw_tail ih k1.kset n1 hok hu2 (by omega) (by omega)
  refine r_if_ne (pc := 1329) 1344 (by decide) dL_law_1329 (fun _ => tl) (fun h9 => ?_)
  have hr0 := nI_z hlt h9
  have e9 : g (nI 0).toNatClampNeg = r.2.1.toInt64 := k4 hr0
  refine r_aload3 (pc := 1332) dL_law_1332 ?_
  refine n_iconst_0 (pc := 1333) dL_law_1333 ?_
  refine r_lald (pc := 1334) dL_law_1334 hu2 in01 ?_
  rw [e9]
  refine r_iload6 (pc := 1335) dL_law_1335 ?_
  refine r_i2l (pc := 1337) dL_law_1337 ?_
  refine r_lcmp (pc := 1338) dL_law_1338 ?_
  refine r_if_eq (pc := 1339) 1344 (by decide) dL_law_1339 (fun _ => tl) (fun h => absurd ((lg_cmp_eq _ _).mpr rfl) h)
theorem lc_least (hk : 4 * k + 4 ≤ L) (hL : L ≤ 2048) (ih : LINV L xs (k + 1)) (hF : FACE (kset M 164 S) w) (hM : MODEL S w) (hO : WOK w) (hu : kset M 164 S 172 = some (cJ 1 f)) : GL L xs (173 + k) (19306 + 6 * k) 1347 [some (.ref 1000), some (.ref 0), some (.ref 164), some (.ref 172), some (.int (nI (4 * k))), a5, a6] [] (kset M 164 S) := by
  refine r_aload1 (pc := 1347) dL_law_1347 ?_
  refine G_callV (pc := 1348) (as := []) (rest := []) lk_L_174 dL_law_1348 (show kset M 164 S 0 = some (cO 6 [.ref 1, .ref 23, .ref 45, .ref 145, .ref 162]) from hF.1) (s7_least hF hO) (by decide) rfl (by decide) ⟨by omega, by omega⟩ (Or.inl rfl) (fun r1 M1 h1 => ?_)
  obtain ⟨k1, k2, k3, h1⟩ := h1
  cases h1
  obtain ⟨M2, rfl⟩ := kfr (fun i a _ => k2 i a)
  have hok := wok_least hO
  have hmod := s8_least (M := M2) (b := 164) (S := S) hM hO
  have hu2 := (k2 172 (by decide)).trans hu
  generalize hr : A_least w = r at k1 hok hmod ⊢
  change GL L xs (173 + k + 0) (19306 + 6 * k + 0) 1351 [some (.ref 1000), some (.ref 0), some (.ref 164), some (.ref 172), some (.int (nI (4 * k))), a5, a6] [.int r.2.1] (kset M2 164 S)
  refine r_aload2 (pc := 1351) dL_law_1351 ?_
  refine r_callV0x (pc := 1352) lk_L_177 dL_law_1352 (kget0 rfl) hmod (by decide) (Nat.le_of_ble_eq_true rfl) ⟨by omega, by omega⟩ (fun M9 h9 => ?_)
  obtain ⟨S2, n1, n2, rfl⟩ := h9
  refine r_icmp_eq (pc := 1355) 1784 (by decide) dL_law_1355 (fun _ => ?_) (fun h => absurd rfl h)
  exact lw_tail ih k1.kset n1 hok (k172.trans hu2) (by omega) (by omega)
theorem lc_worst (hk : 4 * k + 4 ≤ L) (hL : L ≤ 2048) (ih : LINV L xs (k + 1)) (hF : FACE (kset M 164 S) w) (hM : MODEL S w) (hO : WOK w) (hu : kset M 164 S 172 = some (cJ 1 f)) : GL L xs (173 + k) (19306 + 6 * k) 1360 [some (.ref 1000), some (.ref 0), some (.ref 164), some (.ref 172), some (.int (nI (4 * k))), a5, a6] [] (kset M 164 S) := by
  refine r_aload1 (pc := 1360) dL_law_1360 ?_
  refine r_aload0 (pc := 1361) dL_law_1361 ?_
  refine r_iload4 (pc := 1362) dL_law_1362 ?_
  refine n_iconst_1 (pc := 1364) dL_law_1364 ?_
  first | refine n_iadd (pc := 1365) dL_law_1365 ?_ | refine z_iadd (pc := 1365) dL_law_1365 ?_ | refine r_iadd (pc := 1365) dL_law_1365 ?_
  refine r_xald (pc := 1366) rfl (by omega) dL_law_1366 ?_
  refine r_aload3 (pc := 1367) dL_law_1367 ?_
  refine G_callSW (pc := 1368) (as := [.ref 0, .int (xs (4 * k + 1)), .ref 172]) (rest := []) rfl lkw_178 dL_law_1368 (sL_worst hF hO hu) (by decide) rfl (by decide) ⟨by omega, by omega⟩ (fun r1 M1 h1 => ?_)
  obtain ⟨h1, k1, k2, g, k3, k4⟩ := h1
  cases h1
  obtain ⟨M2, rfl⟩ := kfr k2
  have hlt : (A_worst (xs (4 * k + 1)) w).1 ≤ 3 := le3_worst
  have hok : WOK (A_worst (xs (4 * k + 1)) w).2.2 := wok_worst hO
  have hmod : SpecP mX8_worst 12 0 0 [.ref 164, .int (xs (4 * k + 1))] (kset M2 164 S) (tMo M2 164 (A_worst (xs (4 * k + 1)) w)) := s8_worst hM hO
  generalize hr : A_worst (xs (4 * k + 1)) w = r at k1 k4 hlt hok hmod ⊢
  change GL L xs (173 + k + 1) (19306 + 6 * k + 6) 1371 [some (.ref 1000), some (.ref 0), some (.ref 164), some (.ref 172), some (.int (nI (4 * k))), a5, a6] [.int (nI r.1)] (kset M2 164 S)
  refine r_istore5 (pc := 1371) dL_law_1371 rfl ?_
  refine r_aload2 (pc := 1373) dL_law_1373 ?_
  refine r_aload0 (pc := 1374) dL_law_1374 ?_
  refine r_iload4 (pc := 1375) dL_law_1375 ?_
  refine n_iconst_1 (pc := 1377) dL_law_1377 ?_
  first | refine n_iadd (pc := 1378) dL_law_1378 ?_ | refine z_iadd (pc := 1378) dL_law_1378 ?_ | refine r_iadd (pc := 1378) dL_law_1378 ?_
  refine r_xald (pc := 1379) rfl (by omega) dL_law_1379 ?_
  refine r_callV1x (pc := 1380) lk_L_180 dL_law_1380 (kget0 rfl) hmod (by decide) (Nat.le_of_ble_eq_true rfl) ⟨by omega, by omega⟩ (fun M9 h9 => ?_)
  obtain ⟨S2, n1, n2, rfl⟩ := h9
  refine r_istore6 (pc := 1383) dL_law_1383 rfl ?_
  refine r_aload2 (pc := 1385) dL_law_1385 ?_
  refine r_callV0i (pc := 1386) lk_L_104 dL_law_1386 (kget0 rfl) (s8_thrown (M := M2) (b := 164) n2) (by decide) (Nat.le_of_ble_eq_true rfl) ⟨by omega, by omega⟩ ?_
  refine r_iload5 (pc := 1389) dL_law_1389 ?_
  refine r_icmp_eq (pc := 1391) 1396 (by decide) dL_law_1391 (fun _ => ?_) (fun h => absurd rfl h)
  refine r_iload5 (pc := 1396) dL_law_1396 ?_
  have hu2 : kset M2 164 S2 172 = some (cJ 1 g) := k172.trans k3
  have tl : GL L xs (173 + k + 1) (19306 + 6 * k + 6) 1413 [some (.ref 1000), some (.ref 0), some (.ref 164), some (.ref 172), some (.int (nI (4 * k))), some (.int (nI r.1)), some (.int r.2.1)] [] (kset M2 164 S2) := by
    refine r_goto (pc := 1413) 1784 (by decide) dL_law_1413 ?_
    exact lw_tail ih k1.kset n1 hok hu2 (by omega) (by omega)
  refine r_if_ne (pc := 1398) 1413 (by decide) dL_law_1398 (fun _ => tl) (fun h9 => ?_)
  have hr0 := nI_z hlt h9
  have e9 : g (nI 0).toNatClampNeg = r.2.1.toInt64 := k4 hr0
  refine r_aload3 (pc := 1401) dL_law_1401 ?_
  refine n_iconst_0 (pc := 1402) dL_law_1402 ?_
  refine r_lald (pc := 1403) dL_law_1403 hu2 in01 ?_
  rw [e9]
  refine r_iload6 (pc := 1404) dL_law_1404 ?_
  refine r_i2l (pc := 1406) dL_law_1406 ?_
  refine r_lcmp (pc := 1407) dL_law_1407 ?_
  refine r_if_eq (pc := 1408) 1413 (by decide) dL_law_1408 (fun _ => tl) (fun h => absurd ((lg_cmp_eq _ _).mpr rfl) h)
theorem lc_fits (hk : 4 * k + 4 ≤ L) (hL : L ≤ 2048) (ih : LINV L xs (k + 1)) (hF : FACE (kset M 164 S) w) (hM : MODEL S w) (hO : WOK w) (hu : kset M 164 S 172 = some (cJ 1 f)) : GL L xs (173 + k) (19306 + 6 * k) 1416 [some (.ref 1000), some (.ref 0), some (.ref 164), some (.ref 172), some (.int (nI (4 * k))), a5, a6] [] (kset M 164 S) := by
  refine r_aload1 (pc := 1416) dL_law_1416 ?_
  refine r_aload0 (pc := 1417) dL_law_1417 ?_
  refine r_iload4 (pc := 1418) dL_law_1418 ?_
  refine n_iconst_1 (pc := 1420) dL_law_1420 ?_
  first | refine n_iadd (pc := 1421) dL_law_1421 ?_ | refine z_iadd (pc := 1421) dL_law_1421 ?_ | refine r_iadd (pc := 1421) dL_law_1421 ?_
  refine r_xald (pc := 1422) rfl (by omega) dL_law_1422 ?_
  refine r_aload3 (pc := 1423) dL_law_1423 ?_
  refine G_callSW (pc := 1424) (as := [.ref 0, .int (xs (4 * k + 1)), .ref 172]) (rest := []) rfl lkw_181 dL_law_1424 (sL_fits hF hO hu) (by decide) rfl (by decide) ⟨by omega, by omega⟩ (fun r1 M1 h1 => ?_)
  obtain ⟨h1, k1, k2, g, k3, k4⟩ := h1
  cases h1
  obtain ⟨M2, rfl⟩ := kfr k2
  have hlt : (A_fits (xs (4 * k + 1)) w).1 ≤ 3 := le3_fits
  have hok : WOK (A_fits (xs (4 * k + 1)) w).2.2 := wok_fits hO
  have hmod : SpecP mX8_fits 12 0 0 [.ref 164, .int (xs (4 * k + 1))] (kset M2 164 S) (tMo M2 164 (A_fits (xs (4 * k + 1)) w)) := s8_fits hM hO
  generalize hr : A_fits (xs (4 * k + 1)) w = r at k1 k4 hlt hok hmod ⊢
  change GL L xs (173 + k + 1) (19306 + 6 * k + 6) 1427 [some (.ref 1000), some (.ref 0), some (.ref 164), some (.ref 172), some (.int (nI (4 * k))), a5, a6] [.int (nI r.1)] (kset M2 164 S)
  refine r_istore5 (pc := 1427) dL_law_1427 rfl ?_
  refine r_aload2 (pc := 1429) dL_law_1429 ?_
  refine r_aload0 (pc := 1430) dL_law_1430 ?_
  refine r_iload4 (pc := 1431) dL_law_1431 ?_
  refine n_iconst_1 (pc := 1433) dL_law_1433 ?_
  first | refine n_iadd (pc := 1434) dL_law_1434 ?_ | refine z_iadd (pc := 1434) dL_law_1434 ?_ | refine r_iadd (pc := 1434) dL_law_1434 ?_
  refine r_xald (pc := 1435) rfl (by omega) dL_law_1435 ?_
  refine r_callV1x (pc := 1436) lk_L_183 dL_law_1436 (kget0 rfl) hmod (by decide) (Nat.le_of_ble_eq_true rfl) ⟨by omega, by omega⟩ (fun M9 h9 => ?_)
  obtain ⟨S2, n1, n2, rfl⟩ := h9
  refine r_istore6 (pc := 1439) dL_law_1439 rfl ?_
  refine r_aload2 (pc := 1441) dL_law_1441 ?_
  refine r_callV0i (pc := 1442) lk_L_104 dL_law_1442 (kget0 rfl) (s8_thrown (M := M2) (b := 164) n2) (by decide) (Nat.le_of_ble_eq_true rfl) ⟨by omega, by omega⟩ ?_
  refine r_iload5 (pc := 1445) dL_law_1445 ?_
  refine r_icmp_eq (pc := 1447) 1452 (by decide) dL_law_1447 (fun _ => ?_) (fun h => absurd rfl h)
  refine r_iload5 (pc := 1452) dL_law_1452 ?_
  have hu2 : kset M2 164 S2 172 = some (cJ 1 g) := k172.trans k3
  have tl : GL L xs (173 + k + 1) (19306 + 6 * k + 6) 1469 [some (.ref 1000), some (.ref 0), some (.ref 164), some (.ref 172), some (.int (nI (4 * k))), some (.int (nI r.1)), some (.int r.2.1)] [] (kset M2 164 S2) := by
    refine r_goto (pc := 1469) 1784 (by decide) dL_law_1469 ?_
    exact lw_tail ih k1.kset n1 hok hu2 (by omega) (by omega)
  refine r_if_ne (pc := 1454) 1469 (by decide) dL_law_1454 (fun _ => tl) (fun h9 => ?_)
  have hr0 := nI_z hlt h9
  have e9 : g (nI 0).toNatClampNeg = r.2.1.toInt64 := k4 hr0
  refine r_aload3 (pc := 1457) dL_law_1457 ?_
  refine n_iconst_0 (pc := 1458) dL_law_1458 ?_
  refine r_lald (pc := 1459) dL_law_1459 hu2 in01 ?_
  rw [e9]
  refine r_iload6 (pc := 1460) dL_law_1460 ?_
  refine r_i2l (pc := 1462) dL_law_1462 ?_
  refine r_lcmp (pc := 1463) dL_law_1463 ?_
  refine r_if_eq (pc := 1464) 1469 (by decide) dL_law_1464 (fun _ => tl) (fun h => absurd ((lg_cmp_eq _ _).mpr rfl) h)
theorem lc_runScript (hk : 4 * k + 4 ≤ L) (hL : L ≤ 2048) (ih : LINV L xs (k + 1)) (hF : FACE (kset M 164 S) w) (hM : MODEL S w) (hO : WOK w) (hu : kset M 164 S 172 = some (cJ 1 f)) : GL L xs (173 + k) (19306 + 6 * k) 1472 [some (.ref 1000), some (.ref 0), some (.ref 164), some (.ref 172), some (.int (nI (4 * k))), a5, a6] [] (kset M 164 S) := by
  refine r_aload1 (pc := 1472) dL_law_1472 ?_
  refine r_aload0 (pc := 1473) dL_law_1473 ?_
  refine r_iload4 (pc := 1474) dL_law_1474 ?_
  refine n_iconst_1 (pc := 1476) dL_law_1476 ?_
  first | refine n_iadd (pc := 1477) dL_law_1477 ?_ | refine z_iadd (pc := 1477) dL_law_1477 ?_ | refine r_iadd (pc := 1477) dL_law_1477 ?_
  refine r_xald (pc := 1478) rfl (by omega) dL_law_1478 ?_
  refine r_aload0 (pc := 1479) dL_law_1479 ?_
  refine r_iload4 (pc := 1480) dL_law_1480 ?_
  refine n_iconst_2 (pc := 1482) dL_law_1482 ?_
  first | refine n_iadd (pc := 1483) dL_law_1483 ?_ | refine z_iadd (pc := 1483) dL_law_1483 ?_ | refine r_iadd (pc := 1483) dL_law_1483 ?_
  refine r_xald (pc := 1484) rfl (by omega) dL_law_1484 ?_
  refine r_i2l (pc := 1485) dL_law_1485 ?_
  refine n_bipush (pc := 1486) 32 (by decide) dL_law_1486 ?_
  refine r_lshl (pc := 1488) dL_law_1488 ?_
  refine r_aload0 (pc := 1489) dL_law_1489 ?_
  refine r_iload4 (pc := 1490) dL_law_1490 ?_
  refine n_iconst_3 (pc := 1492) dL_law_1492 ?_
  first | refine n_iadd (pc := 1493) dL_law_1493 ?_ | refine z_iadd (pc := 1493) dL_law_1493 ?_ | refine r_iadd (pc := 1493) dL_law_1493 ?_
  refine r_xald (pc := 1494) rfl (by omega) dL_law_1494 ?_
  refine r_i2l (pc := 1495) dL_law_1495 ?_
  refine r_ldc2 (v := (4294967295)) (pc := 1496) (tG 1428 (by decide +kernel) (by decide +kernel)) dL_law_1496 ?_
  refine r_land (pc := 1499) dL_law_1499 ?_
  refine r_lor (pc := 1500) dL_law_1500 ?_
  refine r_aload3 (pc := 1501) dL_law_1501 ?_
  refine G_callSW (pc := 1502) (as := [.ref 0, .int (xs (4 * k + 1)), .long _, .ref 172]) (rest := []) rfl lkw_186 dL_law_1502 (sL_runScript hF hO hu) (by decide) rfl (by decide) ⟨by omega, by omega⟩ (fun r1 M1 h1 => ?_)
  obtain ⟨h1, k1, k2, g, k3, k4⟩ := h1
  cases h1
  obtain ⟨M2, rfl⟩ := kfr k2
  have hlt : (A_runScript (xs (4 * k + 1)) (((xs (4 * k + 2)).toInt64 <<< ((nI 32).toInt64 &&& 63) ||| (xs (4 * k + 3)).toInt64 &&& 4294967295)) w).1 ≤ 3 := le3_runScript
  have hok : WOK (A_runScript (xs (4 * k + 1)) (((xs (4 * k + 2)).toInt64 <<< ((nI 32).toInt64 &&& 63) ||| (xs (4 * k + 3)).toInt64 &&& 4294967295)) w).2.2 := wok_runScript hO
  have hmod : SpecP mX8_runScript 12 0 0 [.ref 164, .int (xs (4 * k + 1)), .long (((xs (4 * k + 2)).toInt64 <<< ((nI 32).toInt64 &&& 63) ||| (xs (4 * k + 3)).toInt64 &&& 4294967295))] (kset M2 164 S) (tMo M2 164 (A_runScript (xs (4 * k + 1)) (((xs (4 * k + 2)).toInt64 <<< ((nI 32).toInt64 &&& 63) ||| (xs (4 * k + 3)).toInt64 &&& 4294967295)) w)) := s8_runScript hM hO
  generalize hsx : (xs (4 * k + 2)).toInt64 <<< ((nI 32).toInt64 &&& 63) ||| (xs (4 * k + 3)).toInt64 &&& 4294967295 = s9 at k1 k4 hlt hok hmod ⊢
  generalize hr : A_runScript (xs (4 * k + 1)) s9 w = r at k1 k4 hlt hok hmod ⊢
  change GL L xs (173 + k + 1) (19306 + 6 * k + 6) 1505 [some (.ref 1000), some (.ref 0), some (.ref 164), some (.ref 172), some (.int (nI (4 * k))), a5, a6] [.int (nI r.1)] (kset M2 164 S)
  refine r_istore5 (pc := 1505) dL_law_1505 rfl ?_
  refine r_aload2 (pc := 1507) dL_law_1507 ?_
  refine r_aload0 (pc := 1508) dL_law_1508 ?_
  refine r_iload4 (pc := 1509) dL_law_1509 ?_
  refine n_iconst_1 (pc := 1511) dL_law_1511 ?_
  first | refine n_iadd (pc := 1512) dL_law_1512 ?_ | refine z_iadd (pc := 1512) dL_law_1512 ?_ | refine r_iadd (pc := 1512) dL_law_1512 ?_
  refine r_xald (pc := 1513) rfl (by omega) dL_law_1513 ?_
  refine r_aload0 (pc := 1514) dL_law_1514 ?_
  refine r_iload4 (pc := 1515) dL_law_1515 ?_
  refine n_iconst_2 (pc := 1517) dL_law_1517 ?_
  first | refine n_iadd (pc := 1518) dL_law_1518 ?_ | refine z_iadd (pc := 1518) dL_law_1518 ?_ | refine r_iadd (pc := 1518) dL_law_1518 ?_
  refine r_xald (pc := 1519) rfl (by omega) dL_law_1519 ?_
  refine r_i2l (pc := 1520) dL_law_1520 ?_
  refine n_bipush (pc := 1521) 32 (by decide) dL_law_1521 ?_
  refine r_lshl (pc := 1523) dL_law_1523 ?_
  refine r_aload0 (pc := 1524) dL_law_1524 ?_
  refine r_iload4 (pc := 1525) dL_law_1525 ?_
  refine n_iconst_3 (pc := 1527) dL_law_1527 ?_
  first | refine n_iadd (pc := 1528) dL_law_1528 ?_ | refine z_iadd (pc := 1528) dL_law_1528 ?_ | refine r_iadd (pc := 1528) dL_law_1528 ?_
  refine r_xald (pc := 1529) rfl (by omega) dL_law_1529 ?_
  refine r_i2l (pc := 1530) dL_law_1530 ?_
  refine r_ldc2 (v := (4294967295)) (pc := 1531) (tG 1428 (by decide +kernel) (by decide +kernel)) dL_law_1531 ?_
  refine r_land (pc := 1534) dL_law_1534 ?_
  refine r_lor (pc := 1535) dL_law_1535 ?_
  rw [hsx]
  refine r_callV2x (pc := 1536) lk_L_189 dL_law_1536 (kget0 rfl) hmod (by decide) (Nat.le_of_ble_eq_true rfl) ⟨by omega, by omega⟩ (fun M9 h9 => ?_)
  obtain ⟨S2, n1, n2, rfl⟩ := h9
  refine r_istore6 (pc := 1539) dL_law_1539 rfl ?_
  refine r_aload2 (pc := 1541) dL_law_1541 ?_
  refine r_callV0i (pc := 1542) lk_L_104 dL_law_1542 (kget0 rfl) (s8_thrown (M := M2) (b := 164) n2) (by decide) (Nat.le_of_ble_eq_true rfl) ⟨by omega, by omega⟩ ?_
  refine r_iload5 (pc := 1545) dL_law_1545 ?_
  refine r_icmp_eq (pc := 1547) 1552 (by decide) dL_law_1547 (fun _ => ?_) (fun h => absurd rfl h)
  refine r_iload5 (pc := 1552) dL_law_1552 ?_
  have hu2 : kset M2 164 S2 172 = some (cJ 1 g) := k172.trans k3
  have tl : GL L xs (173 + k + 1) (19306 + 6 * k + 6) 1569 [some (.ref 1000), some (.ref 0), some (.ref 164), some (.ref 172), some (.int (nI (4 * k))), some (.int (nI r.1)), some (.int r.2.1)] [] (kset M2 164 S2) := by
    refine r_goto (pc := 1569) 1784 (by decide) dL_law_1569 ?_
    exact lw_tail ih k1.kset n1 hok hu2 (by omega) (by omega)
  refine r_if_ne (pc := 1554) 1569 (by decide) dL_law_1554 (fun _ => tl) (fun h9 => ?_)
  have hr0 := nI_z hlt h9
  have e9 : g (nI 0).toNatClampNeg = r.2.1.toInt64 := k4 hr0
  refine r_aload3 (pc := 1557) dL_law_1557 ?_
  refine n_iconst_0 (pc := 1558) dL_law_1558 ?_
  refine r_lald (pc := 1559) dL_law_1559 hu2 in01 ?_
  rw [e9]
  refine r_iload6 (pc := 1560) dL_law_1560 ?_
  refine r_i2l (pc := 1562) dL_law_1562 ?_
  refine r_lcmp (pc := 1563) dL_law_1563 ?_
  refine r_if_eq (pc := 1564) 1569 (by decide) dL_law_1564 (fun _ => tl) (fun h => absurd ((lg_cmp_eq _ _).mpr rfl) h)
theorem lc_simulate (hk : 4 * k + 4 ≤ L) (hL : L ≤ 2048) (ih : LINV L xs (k + 1)) (hF : FACE (kset M 164 S) w) (hM : MODEL S w) (hO : WOK w) (hu : kset M 164 S 172 = some (cJ 1 f)) : GL L xs (173 + k) (19306 + 6 * k) 1572 [some (.ref 1000), some (.ref 0), some (.ref 164), some (.ref 172), some (.int (nI (4 * k))), a5, a6] [] (kset M 164 S) := by
  refine r_aload1 (pc := 1572) dL_law_1572 ?_
  refine r_aload0 (pc := 1573) dL_law_1573 ?_
  refine r_iload4 (pc := 1574) dL_law_1574 ?_
  refine n_iconst_1 (pc := 1576) dL_law_1576 ?_
  first | refine n_iadd (pc := 1577) dL_law_1577 ?_ | refine z_iadd (pc := 1577) dL_law_1577 ?_ | refine r_iadd (pc := 1577) dL_law_1577 ?_
  refine r_xald (pc := 1578) rfl (by omega) dL_law_1578 ?_
  refine r_i2l (pc := 1579) dL_law_1579 ?_
  refine n_bipush (pc := 1580) 32 (by decide) dL_law_1580 ?_
  refine r_lshl (pc := 1582) dL_law_1582 ?_
  refine r_aload0 (pc := 1583) dL_law_1583 ?_
  refine r_iload4 (pc := 1584) dL_law_1584 ?_
  refine n_iconst_2 (pc := 1586) dL_law_1586 ?_
  first | refine n_iadd (pc := 1587) dL_law_1587 ?_ | refine z_iadd (pc := 1587) dL_law_1587 ?_ | refine r_iadd (pc := 1587) dL_law_1587 ?_
  refine r_xald (pc := 1588) rfl (by omega) dL_law_1588 ?_
  refine r_i2l (pc := 1589) dL_law_1589 ?_
  refine r_ldc2 (v := (4294967295)) (pc := 1590) (tG 1428 (by decide +kernel) (by decide +kernel)) dL_law_1590 ?_
  refine r_land (pc := 1593) dL_law_1593 ?_
  refine r_lor (pc := 1594) dL_law_1594 ?_
  refine r_aload0 (pc := 1595) dL_law_1595 ?_
  refine r_iload4 (pc := 1596) dL_law_1596 ?_
  refine n_iconst_3 (pc := 1598) dL_law_1598 ?_
  first | refine n_iadd (pc := 1599) dL_law_1599 ?_ | refine z_iadd (pc := 1599) dL_law_1599 ?_ | refine r_iadd (pc := 1599) dL_law_1599 ?_
  refine r_xald (pc := 1600) rfl (by omega) dL_law_1600 ?_
  refine r_aload3 (pc := 1601) dL_law_1601 ?_
  refine G_callSW (pc := 1602) (as := [.ref 0, .long _, .int (xs (4 * k + 3)), .ref 172]) (rest := []) rfl lkw_190 dL_law_1602 (sL_simulate hF hO hu) (by decide) rfl (by decide) ⟨by omega, by omega⟩ (fun r1 M1 h1 => ?_)
  obtain ⟨h1, k1, k2, g, k3, k4⟩ := h1
  cases h1
  obtain ⟨M2, rfl⟩ := kfr k2
  have hlt : (A_simulate (((xs (4 * k + 1)).toInt64 <<< ((nI 32).toInt64 &&& 63) ||| (xs (4 * k + 2)).toInt64 &&& 4294967295)) (xs (4 * k + 3)) w).1 ≤ 3 := le3_simulate
  have hok : WOK (A_simulate (((xs (4 * k + 1)).toInt64 <<< ((nI 32).toInt64 &&& 63) ||| (xs (4 * k + 2)).toInt64 &&& 4294967295)) (xs (4 * k + 3)) w).2.2 := wok_simulate hO
  have hmod : SpecP mX8_simulate 12 0 0 [.ref 164, .long (((xs (4 * k + 1)).toInt64 <<< ((nI 32).toInt64 &&& 63) ||| (xs (4 * k + 2)).toInt64 &&& 4294967295)), .int (xs (4 * k + 3))] (kset M2 164 S) (tMo M2 164 (A_simulate (((xs (4 * k + 1)).toInt64 <<< ((nI 32).toInt64 &&& 63) ||| (xs (4 * k + 2)).toInt64 &&& 4294967295)) (xs (4 * k + 3)) w)) := s8_simulate hM hO
  generalize hsx : (xs (4 * k + 1)).toInt64 <<< ((nI 32).toInt64 &&& 63) ||| (xs (4 * k + 2)).toInt64 &&& 4294967295 = s9 at k1 k4 hlt hok hmod ⊢
  generalize hr : A_simulate s9 (xs (4 * k + 3)) w = r at k1 k4 hlt hok hmod ⊢
  change GL L xs (173 + k + 1) (19306 + 6 * k + 6) 1605 [some (.ref 1000), some (.ref 0), some (.ref 164), some (.ref 172), some (.int (nI (4 * k))), a5, a6] [.int (nI r.1)] (kset M2 164 S)
  refine r_istore5 (pc := 1605) dL_law_1605 rfl ?_
  refine r_aload2 (pc := 1607) dL_law_1607 ?_
  refine r_aload0 (pc := 1608) dL_law_1608 ?_
  refine r_iload4 (pc := 1609) dL_law_1609 ?_
  refine n_iconst_1 (pc := 1611) dL_law_1611 ?_
  first | refine n_iadd (pc := 1612) dL_law_1612 ?_ | refine z_iadd (pc := 1612) dL_law_1612 ?_ | refine r_iadd (pc := 1612) dL_law_1612 ?_
  refine r_xald (pc := 1613) rfl (by omega) dL_law_1613 ?_
  refine r_i2l (pc := 1614) dL_law_1614 ?_
  refine n_bipush (pc := 1615) 32 (by decide) dL_law_1615 ?_
  refine r_lshl (pc := 1617) dL_law_1617 ?_
  refine r_aload0 (pc := 1618) dL_law_1618 ?_
  refine r_iload4 (pc := 1619) dL_law_1619 ?_
  refine n_iconst_2 (pc := 1621) dL_law_1621 ?_
  first | refine n_iadd (pc := 1622) dL_law_1622 ?_ | refine z_iadd (pc := 1622) dL_law_1622 ?_ | refine r_iadd (pc := 1622) dL_law_1622 ?_
  refine r_xald (pc := 1623) rfl (by omega) dL_law_1623 ?_
  refine r_i2l (pc := 1624) dL_law_1624 ?_
  refine r_ldc2 (v := (4294967295)) (pc := 1625) (tG 1428 (by decide +kernel) (by decide +kernel)) dL_law_1625 ?_
  refine r_land (pc := 1628) dL_law_1628 ?_
  refine r_lor (pc := 1629) dL_law_1629 ?_
  refine r_aload0 (pc := 1630) dL_law_1630 ?_
  refine r_iload4 (pc := 1631) dL_law_1631 ?_
  refine n_iconst_3 (pc := 1633) dL_law_1633 ?_
  first | refine n_iadd (pc := 1634) dL_law_1634 ?_ | refine z_iadd (pc := 1634) dL_law_1634 ?_ | refine r_iadd (pc := 1634) dL_law_1634 ?_
  refine r_xald (pc := 1635) rfl (by omega) dL_law_1635 ?_
  rw [hsx]
  refine r_callV2x (pc := 1636) lk_L_193 dL_law_1636 (kget0 rfl) hmod (by decide) (Nat.le_of_ble_eq_true rfl) ⟨by omega, by omega⟩ (fun M9 h9 => ?_)
  obtain ⟨S2, n1, n2, rfl⟩ := h9
  refine r_istore6 (pc := 1639) dL_law_1639 rfl ?_
  refine r_aload2 (pc := 1641) dL_law_1641 ?_
  refine r_callV0i (pc := 1642) lk_L_104 dL_law_1642 (kget0 rfl) (s8_thrown (M := M2) (b := 164) n2) (by decide) (Nat.le_of_ble_eq_true rfl) ⟨by omega, by omega⟩ ?_
  refine r_iload5 (pc := 1645) dL_law_1645 ?_
  refine r_icmp_eq (pc := 1647) 1652 (by decide) dL_law_1647 (fun _ => ?_) (fun h => absurd rfl h)
  refine r_iload5 (pc := 1652) dL_law_1652 ?_
  have hu2 : kset M2 164 S2 172 = some (cJ 1 g) := k172.trans k3
  have tl : GL L xs (173 + k + 1) (19306 + 6 * k + 6) 1669 [some (.ref 1000), some (.ref 0), some (.ref 164), some (.ref 172), some (.int (nI (4 * k))), some (.int (nI r.1)), some (.int r.2.1)] [] (kset M2 164 S2) := by
    refine r_goto (pc := 1669) 1784 (by decide) dL_law_1669 ?_
    exact lw_tail ih k1.kset n1 hok hu2 (by omega) (by omega)
  refine r_if_ne (pc := 1654) 1669 (by decide) dL_law_1654 (fun _ => tl) (fun h9 => ?_)
  have hr0 := nI_z hlt h9
  have e9 : g (nI 0).toNatClampNeg = r.2.1.toInt64 := k4 hr0
  refine r_aload3 (pc := 1657) dL_law_1657 ?_
  refine n_iconst_0 (pc := 1658) dL_law_1658 ?_
  refine r_lald (pc := 1659) dL_law_1659 hu2 in01 ?_
  rw [e9]
  refine r_iload6 (pc := 1660) dL_law_1660 ?_
  refine r_i2l (pc := 1662) dL_law_1662 ?_
  refine r_lcmp (pc := 1663) dL_law_1663 ?_
  refine r_if_eq (pc := 1664) 1669 (by decide) dL_law_1664 (fun _ => tl) (fun h => absurd ((lg_cmp_eq _ _).mpr rfl) h)
theorem lc_save (hk : 4 * k + 4 ≤ L) (hL : L ≤ 2048) (ih : LINV L xs (k + 1)) (hF : FACE (kset M 164 S) w) (hM : MODEL S w) (hO : WOK w) (hu : kset M 164 S 172 = some (cJ 1 f)) : GL L xs (173 + k) (19306 + 6 * k) 1672 [some (.ref 1000), some (.ref 0), some (.ref 164), some (.ref 172), some (.int (nI (4 * k))), a5, a6] [] (kset M 164 S) := by
  refine r_aload1 (pc := 1672) dL_law_1672 ?_
  refine r_aload0 (pc := 1673) dL_law_1673 ?_
  refine r_iload4 (pc := 1674) dL_law_1674 ?_
  refine n_iconst_1 (pc := 1676) dL_law_1676 ?_
  first | refine n_iadd (pc := 1677) dL_law_1677 ?_ | refine z_iadd (pc := 1677) dL_law_1677 ?_ | refine r_iadd (pc := 1677) dL_law_1677 ?_
  refine r_xald (pc := 1678) rfl (by omega) dL_law_1678 ?_
  refine r_aload3 (pc := 1679) dL_law_1679 ?_
  refine G_callSW (pc := 1680) (as := [.ref 0, .int (xs (4 * k + 1)), .ref 172]) (rest := []) rfl lkw_194 dL_law_1680 (sL_save hF hO hu) (by decide) rfl (by decide) ⟨by omega, by omega⟩ (fun r1 M1 h1 => ?_)
  obtain ⟨h1, k1, k2, g, k3, k4⟩ := h1
  cases h1
  obtain ⟨M2, rfl⟩ := kfr k2
  have hlt : (A_save (xs (4 * k + 1)) w).1 ≤ 3 := le3_save
  have hok : WOK (A_save (xs (4 * k + 1)) w).2.2 := wok_save hO
  have hmod : SpecP mX8_save 12 0 0 [.ref 164, .int (xs (4 * k + 1))] (kset M2 164 S) (tMo M2 164 (A_save (xs (4 * k + 1)) w)) := s8_save hM hO
  generalize hr : A_save (xs (4 * k + 1)) w = r at k1 k4 hlt hok hmod ⊢
  change GL L xs (173 + k + 1) (19306 + 6 * k + 6) 1683 [some (.ref 1000), some (.ref 0), some (.ref 164), some (.ref 172), some (.int (nI (4 * k))), a5, a6] [.int (nI r.1)] (kset M2 164 S)
  refine r_istore5 (pc := 1683) dL_law_1683 rfl ?_
  refine r_aload2 (pc := 1685) dL_law_1685 ?_
  refine r_aload0 (pc := 1686) dL_law_1686 ?_
  refine r_iload4 (pc := 1687) dL_law_1687 ?_
  refine n_iconst_1 (pc := 1689) dL_law_1689 ?_
  first | refine n_iadd (pc := 1690) dL_law_1690 ?_ | refine z_iadd (pc := 1690) dL_law_1690 ?_ | refine r_iadd (pc := 1690) dL_law_1690 ?_
  refine r_xald (pc := 1691) rfl (by omega) dL_law_1691 ?_
  refine r_callV1x (pc := 1692) lk_L_196 dL_law_1692 (kget0 rfl) hmod (by decide) (Nat.le_of_ble_eq_true rfl) ⟨by omega, by omega⟩ (fun M9 h9 => ?_)
  obtain ⟨S2, n1, n2, rfl⟩ := h9
  refine r_istore6 (pc := 1695) dL_law_1695 rfl ?_
  refine r_aload2 (pc := 1697) dL_law_1697 ?_
  refine r_callV0i (pc := 1698) lk_L_104 dL_law_1698 (kget0 rfl) (s8_thrown (M := M2) (b := 164) n2) (by decide) (Nat.le_of_ble_eq_true rfl) ⟨by omega, by omega⟩ ?_
  refine r_iload5 (pc := 1701) dL_law_1701 ?_
  refine r_icmp_eq (pc := 1703) 1708 (by decide) dL_law_1703 (fun _ => ?_) (fun h => absurd rfl h)
  refine r_iload5 (pc := 1708) dL_law_1708 ?_
  have hu2 : kset M2 164 S2 172 = some (cJ 1 g) := k172.trans k3
  have tl : GL L xs (173 + k + 1) (19306 + 6 * k + 6) 1725 [some (.ref 1000), some (.ref 0), some (.ref 164), some (.ref 172), some (.int (nI (4 * k))), some (.int (nI r.1)), some (.int r.2.1)] [] (kset M2 164 S2) := by
    refine r_goto (pc := 1725) 1784 (by decide) dL_law_1725 ?_
    exact lw_tail ih k1.kset n1 hok hu2 (by omega) (by omega)
  refine r_if_ne (pc := 1710) 1725 (by decide) dL_law_1710 (fun _ => tl) (fun h9 => ?_)
  have hr0 := nI_z hlt h9
  have e9 : g (nI 0).toNatClampNeg = r.2.1.toInt64 := k4 hr0
  refine r_aload3 (pc := 1713) dL_law_1713 ?_
  refine n_iconst_0 (pc := 1714) dL_law_1714 ?_
  refine r_lald (pc := 1715) dL_law_1715 hu2 in01 ?_
  rw [e9]
  refine r_iload6 (pc := 1716) dL_law_1716 ?_
  refine r_i2l (pc := 1718) dL_law_1718 ?_
  refine r_lcmp (pc := 1719) dL_law_1719 ?_
  refine r_if_eq (pc := 1720) 1725 (by decide) dL_law_1720 (fun _ => tl) (fun h => absurd ((lg_cmp_eq _ _).mpr rfl) h)
theorem lc_restore (hk : 4 * k + 4 ≤ L) (hL : L ≤ 2048) (ih : LINV L xs (k + 1)) (hF : FACE (kset M 164 S) w) (hM : MODEL S w) (hO : WOK w) (hu : kset M 164 S 172 = some (cJ 1 f)) : GL L xs (173 + k) (19306 + 6 * k) 1728 [some (.ref 1000), some (.ref 0), some (.ref 164), some (.ref 172), some (.int (nI (4 * k))), a5, a6] [] (kset M 164 S) := by
  refine r_aload1 (pc := 1728) dL_law_1728 ?_
  refine r_aload0 (pc := 1729) dL_law_1729 ?_
  refine r_iload4 (pc := 1730) dL_law_1730 ?_
  refine n_iconst_1 (pc := 1732) dL_law_1732 ?_
  first | refine n_iadd (pc := 1733) dL_law_1733 ?_ | refine z_iadd (pc := 1733) dL_law_1733 ?_ | refine r_iadd (pc := 1733) dL_law_1733 ?_
  refine r_xald (pc := 1734) rfl (by omega) dL_law_1734 ?_
  refine r_aload3 (pc := 1735) dL_law_1735 ?_
  refine G_callSW (pc := 1736) (as := [.ref 0, .int (xs (4 * k + 1)), .ref 172]) (rest := []) rfl lkw_197 dL_law_1736 (sL_restore hF hO hu) (by decide) rfl (by decide) ⟨by omega, by omega⟩ (fun r1 M1 h1 => ?_)
  obtain ⟨h1, k1, k2, g, k3, k4⟩ := h1
  cases h1
  obtain ⟨M2, rfl⟩ := kfr k2
  have hlt : (A_restore (xs (4 * k + 1)) w).1 ≤ 3 := le3_restore
  have hok : WOK (A_restore (xs (4 * k + 1)) w).2.2 := wok_restore hO
  have hmod : SpecP mX8_restore 12 0 0 [.ref 164, .int (xs (4 * k + 1))] (kset M2 164 S) (tMo M2 164 (A_restore (xs (4 * k + 1)) w)) := s8_restore hM hO
  generalize hr : A_restore (xs (4 * k + 1)) w = r at k1 k4 hlt hok hmod ⊢
  change GL L xs (173 + k + 1) (19306 + 6 * k + 6) 1739 [some (.ref 1000), some (.ref 0), some (.ref 164), some (.ref 172), some (.int (nI (4 * k))), a5, a6] [.int (nI r.1)] (kset M2 164 S)
  refine r_istore5 (pc := 1739) dL_law_1739 rfl ?_
  refine r_aload2 (pc := 1741) dL_law_1741 ?_
  refine r_aload0 (pc := 1742) dL_law_1742 ?_
  refine r_iload4 (pc := 1743) dL_law_1743 ?_
  refine n_iconst_1 (pc := 1745) dL_law_1745 ?_
  first | refine n_iadd (pc := 1746) dL_law_1746 ?_ | refine z_iadd (pc := 1746) dL_law_1746 ?_ | refine r_iadd (pc := 1746) dL_law_1746 ?_
  refine r_xald (pc := 1747) rfl (by omega) dL_law_1747 ?_
  refine r_callV1x (pc := 1748) lk_L_199 dL_law_1748 (kget0 rfl) hmod (by decide) (Nat.le_of_ble_eq_true rfl) ⟨by omega, by omega⟩ (fun M9 h9 => ?_)
  obtain ⟨S2, n1, n2, rfl⟩ := h9
  refine r_istore6 (pc := 1751) dL_law_1751 rfl ?_
  refine r_aload2 (pc := 1753) dL_law_1753 ?_
  refine r_callV0i (pc := 1754) lk_L_104 dL_law_1754 (kget0 rfl) (s8_thrown (M := M2) (b := 164) n2) (by decide) (Nat.le_of_ble_eq_true rfl) ⟨by omega, by omega⟩ ?_
  refine r_iload5 (pc := 1757) dL_law_1757 ?_
  refine r_icmp_eq (pc := 1759) 1764 (by decide) dL_law_1759 (fun _ => ?_) (fun h => absurd rfl h)
  refine r_iload5 (pc := 1764) dL_law_1764 ?_
  have hu2 : kset M2 164 S2 172 = some (cJ 1 g) := k172.trans k3
  have tl : GL L xs (173 + k + 1) (19306 + 6 * k + 6) 1781 [some (.ref 1000), some (.ref 0), some (.ref 164), some (.ref 172), some (.int (nI (4 * k))), some (.int (nI r.1)), some (.int r.2.1)] [] (kset M2 164 S2) := by
    refine r_goto (pc := 1781) 1784 (by decide) dL_law_1781 ?_
    exact lw_tail ih k1.kset n1 hok hu2 (by omega) (by omega)
  refine r_if_ne (pc := 1766) 1781 (by decide) dL_law_1766 (fun _ => tl) (fun h9 => ?_)
  have hr0 := nI_z hlt h9
  have e9 : g (nI 0).toNatClampNeg = r.2.1.toInt64 := k4 hr0
  refine r_aload3 (pc := 1769) dL_law_1769 ?_
  refine n_iconst_0 (pc := 1770) dL_law_1770 ?_
  refine r_lald (pc := 1771) dL_law_1771 hu2 in01 ?_
  rw [e9]
  refine r_iload6 (pc := 1772) dL_law_1772 ?_
  refine r_i2l (pc := 1774) dL_law_1774 ?_
  refine r_lcmp (pc := 1775) dL_law_1775 ?_
  refine r_if_eq (pc := 1776) 1781 (by decide) dL_law_1776 (fun _ => tl) (fun h => absurd ((lg_cmp_eq _ _).mpr rfl) h)
end LAWC
theorem lw_loop {L : Nat} {xs : Nat → Int32} (hL : L ≤ 2048) : LINV L xs 0 := by
  refine up_to (N := L / 4) (k := 0) (fun k => LINV L xs k) (fun w M S f a5 a6 hF hM hO hu => ?_) (fun k hk ih w M S f a5 a6 hF hM hO hu => ?_) (Nat.zero_le _)
  · have e : iI ((L : Int) - ((4 : Nat) : Int)) < nI (4 * (L / 4)) := by
      rw [Int32.lt_iff_toInt_lt, iI_toInt (by omega) (by omega), nI_toInt (by omega)]
      omega
    refine r_iload4 (pc := 23) dL_law_23 ?_
    refine r_aload0 (pc := 25) dL_law_25 ?_
    refine r_xlen (pc := 26) rfl dL_law_26 ?_
    refine n_iconst_4 (pc := 27) dL_law_27 ?_
    first | refine n_isubI (pc := 28) dL_law_28 ?_ | refine z_isub (pc := 28) dL_law_28 ?_ | refine r_isub (pc := 28) dL_law_28 ?_
    refine r_icmp_gt (pc := 29) 1790 (by decide) dL_law_29 (fun _ => ?_) (fun h => absurd e h)
    refine n_iconst_1 (pc := 1790) dL_law_1790 ?_
    exact GL_ret (pc := 1791) dL_law_1791 (by omega) (by omega)
  · have e : ¬ iI ((L : Int) - ((4 : Nat) : Int)) < nI (4 * k) := by
      rw [Int32.lt_iff_toInt_lt, iI_toInt (by omega) (by omega), nI_toInt (by omega)]
      omega
    have hk4 : 4 * k + 4 ≤ L := by omega
    refine r_iload4 (pc := 23) dL_law_23 ?_
    refine r_aload0 (pc := 25) dL_law_25 ?_
    refine r_xlen (pc := 26) rfl dL_law_26 ?_
    refine n_iconst_4 (pc := 27) dL_law_27 ?_
    first | refine n_isubI (pc := 28) dL_law_28 ?_ | refine z_isub (pc := 28) dL_law_28 ?_ | refine r_isub (pc := 28) dL_law_28 ?_
    refine r_icmp_gt (pc := 29) 1790 (by decide) dL_law_29 (fun h => absurd h e) (fun _ => ?_)
    refine r_aload0 (pc := 32) dL_law_32 ?_
    refine r_iload4 (pc := 33) dL_law_33 ?_
    refine r_xald (pc := 35) rfl (by omega) dL_law_35 ?_
    refine n_bipush (pc := 36) 31 (by decide) dL_law_36 ?_
    refine r_iand (pc := 38) dL_law_38 ?_
    obtain ⟨j, hj, ej⟩ := pk_andE (xs (4 * k)) (m := nI 31) 5 (by decide)
    rw [ej]
    have hj : j < 32 := hj
    by_cases h28 : 28 ≤ j
    · refine r_tableOut (pc := 39) 1784 (Or.inr (by rw [nI_toInt (by omega)]; omega)) (by decide) dL_law_39 ?_
      exact lw_tail ih hF hM hO hu (by omega) (by omega)
    · have c : j = 0 ∨ j = 1 ∨ j = 2 ∨ j = 3 ∨ j = 4 ∨ j = 5 ∨ j = 6 ∨ j = 7 ∨ j = 8 ∨ j = 9 ∨ j = 10 ∨ j = 11 ∨ j = 12 ∨ j = 13 ∨ j = 14 ∨ j = 15 ∨ j = 16 ∨ j = 17 ∨ j = 18 ∨ j = 19 ∨ j = 20 ∨ j = 21 ∨ j = 22 ∨ j = 23 ∨ j = 24 ∨ j = 25 ∨ j = 26 ∨ j = 27 := by omega
      rcases c with c | c | c | c | c | c | c | c | c | c | c | c | c | c | c | c | c | c | c | c | c | c | c | c | c | c | c | c <;> subst c
      · refine r_tableIn (pc := 39) 164 (by decide) (by decide) rfl (by decide) dL_law_39 ?_
        exact lc_append hk4 hL ih hF hM hO hu
      · refine r_tableIn (pc := 39) 220 (by decide) (by decide) rfl (by decide) dL_law_39 ?_
        exact lc_clearText hk4 hL ih hF hM hO hu
      · refine r_tableIn (pc := 39) 233 (by decide) (by decide) rfl (by decide) dL_law_39 ?_
        exact lc_errorPosition hk4 hL ih hF hM hO hu
      · refine r_tableIn (pc := 39) 246 (by decide) (by decide) rfl (by decide) dL_law_39 ?_
        exact lc_load hk4 hL ih hF hM hO hu
      · refine r_tableIn (pc := 39) 290 (by decide) (by decide) rfl (by decide) dL_law_39 ?_
        exact lc_about hk4 hL ih hF hM hO hu
      · refine r_tableIn (pc := 39) 346 (by decide) (by decide) rfl (by decide) dL_law_39 ?_
        exact lc_square hk4 hL ih hF hM hO hu
      · refine r_tableIn (pc := 39) 426 (by decide) (by decide) rfl (by decide) dL_law_39 ?_
        exact lc_place hk4 hL ih hF hM hO hu
      · refine r_tableIn (pc := 39) 494 (by decide) (by decide) rfl (by decide) dL_law_39 ?_
        exact lc_tile hk4 hL ih hF hM hO hu
      · refine r_tableIn (pc := 39) 562 (by decide) (by decide) rfl (by decide) dL_law_39 ?_
        exact lc_begin hk4 hL ih hF hM hO hu
      · refine r_tableIn (pc := 39) 630 (by decide) (by decide) rfl (by decide) dL_law_39 ?_
        exact lc_grey hk4 hL ih hF hM hO hu
      · refine r_tableIn (pc := 39) 710 (by decide) (by decide) rfl (by decide) dL_law_39 ?_
        exact lc_fade hk4 hL ih hF hM hO hu
      · refine r_tableIn (pc := 39) 778 (by decide) (by decide) rfl (by decide) dL_law_39 ?_
        exact lc_turn hk4 hL ih hF hM hO hu
      · refine r_tableIn (pc := 39) 834 (by decide) (by decide) rfl (by decide) dL_law_39 ?_
        exact lc_swap hk4 hL ih hF hM hO hu
      · refine r_tableIn (pc := 39) 902 (by decide) (by decide) rfl (by decide) dL_law_39 ?_
        exact lc_flip hk4 hL ih hF hM hO hu
      · refine r_tableIn (pc := 39) 970 (by decide) (by decide) rfl (by decide) dL_law_39 ?_
        by_cases hv : xs (4 * k + 2) = 0
        · exact lc_hold_f hk4 hL ih hF hM hO hu hv
        · exact lc_hold_t hk4 hL ih hF hM hO hu hv
      · refine r_tableIn (pc := 39) 1054 (by decide) (by decide) rfl (by decide) dL_law_39 ?_
        exact lc_lay hk4 hL ih hF hM hO hu
      · refine r_tableIn (pc := 39) 1067 (by decide) (by decide) rfl (by decide) dL_law_39 ?_
        exact lc_improve hk4 hL ih hF hM hO hu
      · refine r_tableIn (pc := 39) 1123 (by decide) (by decide) rfl (by decide) dL_law_39 ?_
        exact lc_undo hk4 hL ih hF hM hO hu
      · refine r_tableIn (pc := 39) 1167 (by decide) (by decide) rfl (by decide) dL_law_39 ?_
        exact lc_gain hk4 hL ih hF hM hO hu
      · refine r_tableIn (pc := 39) 1223 (by decide) (by decide) rfl (by decide) dL_law_39 ?_
        exact lc_best hk4 hL ih hF hM hO hu
      · refine r_tableIn (pc := 39) 1279 (by decide) (by decide) rfl (by decide) dL_law_39 ?_
        exact lc_ifImproved hk4 hL ih hF hM hO hu
      · refine r_tableIn (pc := 39) 1347 (by decide) (by decide) rfl (by decide) dL_law_39 ?_
        exact lc_least hk4 hL ih hF hM hO hu
      · refine r_tableIn (pc := 39) 1360 (by decide) (by decide) rfl (by decide) dL_law_39 ?_
        exact lc_worst hk4 hL ih hF hM hO hu
      · refine r_tableIn (pc := 39) 1416 (by decide) (by decide) rfl (by decide) dL_law_39 ?_
        exact lc_fits hk4 hL ih hF hM hO hu
      · refine r_tableIn (pc := 39) 1472 (by decide) (by decide) rfl (by decide) dL_law_39 ?_
        exact lc_runScript hk4 hL ih hF hM hO hu
      · refine r_tableIn (pc := 39) 1572 (by decide) (by decide) rfl (by decide) dL_law_39 ?_
        exact lc_simulate hk4 hL ih hF hM hO hu
      · refine r_tableIn (pc := 39) 1672 (by decide) (by decide) rfl (by decide) dL_law_39 ?_
        exact lc_save hk4 hL ih hF hM hO hu
      · refine r_tableIn (pc := 39) 1728 (by decide) (by decide) rfl (by decide) dL_law_39 ?_
        exact lc_restore hk4 hL ih hF hM hO hu
