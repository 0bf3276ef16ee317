/-! the law: its script, its loop -/
def cellX (L : Nat) (xs : Nat → Int32) (k : Nat) : Int32 := (if k < L then xs k else nI (15519697 * (k + 3) + 11701)) &&& nI 2147483647
theorem and_pos (x : Int32) : ∃ X, X < 2147483648 ∧ x &&& nI 2147483647 = nI X := by
  refine ⟨(x.toBitVec &&& 2147483647#32).toNat, ?_, ?_⟩
  · rw [BitVec.toNat_and]
    exact Nat.lt_of_le_of_lt Nat.and_le_right (by decide)
  · apply Int32.toBitVec_inj.mp
    show x.toBitVec &&& 2147483647#32 = BitVec.ofNat 32 (x.toBitVec &&& 2147483647#32).toNat
    rw [BitVec.ofNat_toNat, BitVec.setWidth_eq]
def pPreC (D : va_G) (nx : Nat) (ad : Nat → Nat) (ca : Nat → ClassId) (sz : Nat) (as : List Value) (M : Mem) (L : Nat) (xs : Nat → Int32) : Array Value → State → Prop := fun a U => pPre D nx ad ca sz as M a U ∧ va_X (ad 1000) L xs U U.heap ∧ ad 1000 < sz ∧ (¬ pAA nx ad sz (ad 1000)) ∧ L < 2 ^ 31
theorem pPreC_blind {D : va_G} {nx : Nat} {ad : Nat → Nat} {ca : Nat → ClassId} {sz : Nat} {as : List Value} {M : Mem} {L : Nat} {xs : Nat → Int32} : FrameBlind (pPreC D nx ad ca sz as M L xs) := by
  intro a U g mk h
  exact ⟨pPre_blind a U g mk h.1, va_X.moved (u := U) (U := U.calling g mk a) (Vm.Alike.refl U.vm) h.2.1, h.2.2⟩
/-- the contract of a method that reads the script -/
def SpecC (q : MI) (d mc ms : Nat) (as : List Value) (M : Mem) (L : Nat) (xs : Nat → Int32) (oc : TG) : Prop :=
  ∀ (l : Launch) (D : va_G) (nx : Nat) (ad : Nat → Nat) (ca : Nat → ClassId) (sz : Nat), l.stackTraces = false → Met l q.1 (wsU q) (rmU d mc ms) (pPreC D nx ad ca sz as M L xs) (pQ D nx ad ca (pAA nx ad sz) oc) mc ms (pAA nx ad sz)
theorem SpecC_of {q : MI} {d mc ms : Nat} {as : List Value} {M : Mem} {L : Nat} {xs : Nat → Int32} {oc : TG} (lv : List (Option Value)) (hpl : plainName q.1.cls = true) (hn : (lvI as).length ≤ mL q) (hlv : lvI as ++ List.replicate (mL q - (lvI as).length) none = lv)
    (k : G q d (.inr (.inr (.inr (L, xs)))) mc ms oc none 0 0 0 lv [] M) : SpecC q d mc ms as M L xs oc := by
  intro l D nx ad ca sz hl
  refine Met.ofW (cc := mC q) (maxL := mL q) (ret := mR q) hpl rfl ?_
  intro p e s m args below meth c s₁ B hml hv
  obtain ⟨⟨rfl, hsz, hd, hJ, hP, hK, hE⟩, hX1, hX2, hX3, hX4⟩ := hv
  subst hsz
  have hts := atoms_spec (ws := wsU q) B.pre
  have hown : s.vm.findClass q.1.cls = some m.cls := findClass_of_methodNamed B.named
  rw [lg_entry_eq]
  exact k p l e (rmU d mc ms) s m _ below meth c s.heap [] _ D nx nx ad ca (pAA nx ad s.heap.size) _
    ⟨B.exec, B.bytes, hml, ⟨B.returns, fun h => (name_of_methodNamed B.named B.method).1.trans h⟩, hown, fun w h => hts w (List.mem_cons_of_mem _ h), hK, hE, pAA_sz, hJ, pAA_ad, B.notSynchronized, hl, ⟨Nat.le_refl _, Nat.le_refl _, Nat.le_refl _, Nat.le_refl _⟩, rfl, hX4, hX1, hX2, hX3⟩ hd hP va_S.rf rfl (lvOK_entry ad as hn hlv)
section CELL
variable {q : MI} {d : Nat} {x : XM} {mc ms : Nat} {oc : TG} {al : Option Nat} {cs ss pc : Nat} {lv : List (Option Value)} {st : List Value} {M : Mem} {L : Nat} {xs : Nat → Int32}
theorem r_scld {i : Nat} (hxx : x = .inr (.inr (.inr (L, xs)))) (hi : i < L) (h0 : dec q pc = .ok (.iaload, 1)) (k : G q d x mc ms oc al cs ss (pc + 1) lv (.int (xs i) :: st) M) : G q d x mc ms oc al cs ss pc lv (.int (nI i) :: .ref 1000 :: st) M := by
  intro p l e R s m args below meth c H locs Q D nx nz ad ca A ls C hd hP hS hal hl
  obtain ⟨hx, hb, hml, hr, hown, hts, hK, hE, hA, hJ, hAd, hlk, hst, hRm, hmd⟩ := id C
  subst hxx
  obtain ⟨m1, m2, m3, m4, m5⟩ := hmd
  have h31 : L < 2147483648 := m2
  refine va_sld hx hb m3 m4 m5 hS (vp_in_nI hi h31) h0 ?_
  rw [nI_clamp (by omega)]
  exact k p l e R s m args below meth c H locs Q D nx nz ad ca A ls C hd hP hS hal hl
theorem r_clen (hxx : x = .inr (.inr (.inr (L, xs)))) (h0 : dec q pc = .ok (.arraylength, 1)) (k : G q d x mc ms oc al cs ss (pc + 1) lv (.int (nI L) :: st) M) : G q d x mc ms oc al cs ss pc lv (.ref 1000 :: st) M := by
  intro p l e R s m args below meth c H locs Q D nx nz ad ca A ls C hd hP hS hal hl
  obtain ⟨hx, hb, hml, hr, hown, hts, hK, hE, hA, hJ, hAd, hlk, hst, hRm, hmd⟩ := id C
  subst hxx
  obtain ⟨m1, m2, m3, m4, m5⟩ := hmd
  exact va_slen hx hb m3 m4 m5 hS h0 (k p l e R s m args below meth c H locs Q D nx nz ad ca A ls C hd hP hS hal hl)
theorem p_ireturnC {v : Int32} (hxx : x = .inr (.inr (.inr (L, xs)))) {ty : FieldType} (hR : mR q = some ty) (hnar : narrow ty (.int v) = .int v) (h0 : dec q pc = .ok (.ireturn, 1)) (hcs : cs ≤ mc) (hss : ss ≤ ms) (hal0 : al = none) (hoc : oc (.inl (some (.int v))) M) : G q d x mc ms oc al cs ss pc lv [.int v] M := by
  intro p l e R s m args below meth c H locs Q D nx nz ad ca A ls C hd hP hS hal hl
  obtain ⟨hx, hb, hml, hr, hown, hts, hK, hE, hA, hJ, hAd, hlk, hst, hRm, hmd⟩ := id C
  subst hal0 hxx
  have hnz : nz = nx := hal
  subst hnz
  have hq : Q = _ := hmd.1
  rw [hq]
  refine W.widen hcs hss ?_
  exact W.zret hx hb (hr.1.trans hR) hnar (fun t ht hW => ⟨⟨_, M, hoc, rfl, hd, by rw [ht]; exact hP⟩, hS.F ht⟩) hS.2.2 h0
theorem G_callC {y : MI} {d' n idx mc' ms' : Nat} {as rest : List Value} {oc' : TG} (hxx : x = .inr (.inl (L, xs))) (lk : LkS q.1.cls idx y n) (h0 : dec q pc = .ok (.invokestatic idx, 3)) (hsp : SpecC y d' mc' ms' as M L xs oc') (g_d : d' + 1 ≤ d) (hn : as.length = n) (hW : (rest.map fun v => v.category).sum ≤ 8) (hcs : cs + mc' ≤ mc ∧ ss + ms' ≤ ms) (hal0 : al = none)
    (k : ∀ (r : Option Value) (M1 : Mem), oc' (.inl r) M1 → G q d x mc ms oc al (cs + mc') (ss + ms') (pc + 3) lv (r.toList ++ rest) M1) : G q d x mc ms oc al cs ss pc lv (as.reverse ++ rest) M := by
  intro p l e R s m args below meth c H locs Q D nx nz ad ca A ls C hd hP hS hal hl
  obtain ⟨hx, hb, hml, hr, hown, hts, hK, hE, hA, hJ, hAd, hlk, hst, hRm, hmd⟩ := id C
  obtain ⟨g_l, g_s, g_i, g_c, g_m, g_p, g_x⟩ := lk
  subst hxx hal0
  obtain ⟨m1, m2, m3, b, m4, m5, m6, m7, m8⟩ := hmd
  have hnA : ¬ A b := fun q => absurd (m8 b q) (by omega)
  have hXH : va_X (ad 1000) L xs s H := by rw [m4]; exact m6.kept (hS.2.1 b m7 hnA)
  have hlt : ad 1000 < H.size := by rw [m4]; exact Nat.lt_of_lt_of_le m7 hS.1
  have hnp : ¬ pAA nx ad H.size (ad 1000) := fun h => hnA (by rw [← m4]; exact p_sub hS hA hAd _ h)
  refine p_call (A1 := pAA nx ad H.size) (D := D) (nz := nx) (ad := ad) (ca := ca) (oc' := oc') (rest := rest.map (cvV ad)) (va_runS (As := as.map (cvV ad)) (n := n) ⟨hx, hb, hml, hown, hts⟩ (hsp l D nx ad ca H.size hst) ⟨⟨rfl, rfl, Nat.le_trans g_d hRm.1, by show 8 + (mL y + 11) + 40 * d' ≤ R.locals; have := hRm.2.1; omega, wsU_warm hts g_c, List.mem_cons_self, hts _ g_c, hts _ g_i, g_m, fun sig h => by unfold nPar at g_p; rw [h] at g_p; exact (Option.some.inj g_p).symm, hts _ g_l⟩, hts _ g_s⟩ ⟨pPreC_blind, fun U hU hW => ⟨⟨rfl, by rw [hU], hd, hJ, by rw [hU]; exact hP, va_K.moved hW.alike hK, by rw [hU]; exact pE.go hE hS hW (p_sub hS hA hAd)⟩, by rw [hU]; exact va_X.moved hW.alike hXH, hlt, hnp, m3⟩⟩ rfl (by rw [List.length_map]; exact hn) (by show ls.size = mL q; exact hl.size) (by show _ = _; rw [List.map_append, List.map_reverse]) (by show 2 * 0 + _ ≤ 8; rw [cv_sum]; omega) h0 (by have := hRm.2.2; omega)) hS (p_sub hS hA hAd) (fun r M1 H1 locs1 ho1 hd1 hP1 hS1 => ?_)
  have e9 : (r.map (cvV ad)).toList ++ rest.map (cvV ad) = (r.toList ++ rest).map (cvV ad) := by cases r <;> simp
  rw [e9]
  exact k r M1 ho1 p l e R s m args below meth c H1 locs1 Q D nx nz ad ca A ls C hd1 hP1 hS1 hal hl
theorem G_callS2 {y : MI} {d' n idx mc' ms' : Nat} {as rest : List Value} {oc' : TG} (lk : LkS2 q.1.cls idx y n) (h0 : dec q pc = .ok (.invokestatic idx, 3)) (hsp : SpecP y d' mc' ms' as M oc') (g_d : d' + 2 ≤ d) (hn : as.length = n) (hW : (rest.map fun v => v.category).sum ≤ 8) (hcs : cs + mc' ≤ mc ∧ ss + ms' ≤ ms) (hal0 : al = none)
    (k : ∀ (r : Option Value) (M1 : Mem), oc' (.inl r) M1 → G q d x mc ms oc al (cs + mc') (ss + ms') (pc + 3) lv (r.toList ++ rest) M1) : G q d x mc ms oc al cs ss pc lv (as.reverse ++ rest) M := by
  intro p l e R s m args below meth c H locs Q D nx nz ad ca A ls C hd hP hS hal hl
  obtain ⟨hx, hb, hml, hr, hown, hts, hK, hE, hA, hJ, hAd, hlk, hst, hRm, hmd⟩ := id C
  obtain ⟨g_l, g_s, g_i, g_c, g_m, g_p, g_x⟩ := lk
  subst hal0
  refine p_call (A1 := pAA nx ad H.size) (D := D) (nz := nx) (ad := ad) (ca := ca) (oc' := oc') (rest := rest.map (cvV ad)) (va_runS (As := as.map (cvV ad)) (n := n) ⟨hx, hb, hml, hown, hts⟩ (hsp l D nx ad ca H.size hst) ⟨⟨rfl, rfl, Nat.le_trans (Nat.le_of_succ_le g_d) hRm.1, by show 8 + (mL y + 11) + 40 * d' ≤ R.locals; have := hRm.2.1; omega, wsU_warm hts g_c, List.mem_cons_self, hts _ g_c, hts _ g_i, g_m, fun sig h => by unfold nPar at g_p; rw [h] at g_p; exact (Option.some.inj g_p).symm, hts _ g_l⟩, hts _ g_s⟩ ⟨pPre_blind, fun U hU hW => ⟨rfl, by rw [hU], hd, hJ, by rw [hU]; exact hP, va_K.moved hW.alike hK, by rw [hU]; exact pE.go hE hS hW (p_sub hS hA hAd)⟩⟩ rfl (by rw [List.length_map]; exact hn) (by show ls.size = mL q; exact hl.size) (by show _ = _; rw [List.map_append, List.map_reverse]) (by show 2 * 0 + _ ≤ 8; rw [cv_sum]; omega) h0 (by have := hRm.2.2; omega)) hS (p_sub hS hA hAd) (fun r M1 H1 locs1 ho1 hd1 hP1 hS1 => ?_)
  have e9 : (r.map (cvV ad)).toList ++ rest.map (cvV ad) = (r.toList ++ rest).map (cvV ad) := by cases r <;> simp
  rw [e9]
  exact k r M1 ho1 p l e R s m args below meth c H1 locs1 Q D nx nz ad ca A ls C hd1 hP1 hS1 hal hl
theorem r_callL2 {y : MI} {idx n d' mc' ms' : Nat} {as rest : List Value} {v : Int32} {P : Mem → Prop} (lk : LkS2 q.1.cls idx y n) (hal0 : al = none) (h0 : dec q pc = .ok (.invokestatic idx, 3)) (hsp : SpecP y d' mc' ms' as M (tP (some (.int v)) P)) (g_d : d' + 2 ≤ d) (hn : as.length = n) (hst : as.reverse ++ rest = st) (hW : (rest.map fun v => v.category).sum ≤ 8) (hcs : cs + mc' ≤ mc ∧ ss + ms' ≤ ms)
    (kk : ∀ M1 : Mem, P M1 → G q d x mc ms oc al (cs + mc') (ss + ms') (pc + 3) lv (.int v :: rest) M1) : G q d x mc ms oc al cs ss pc lv st M := by
  subst hst
  exact G_callS2 lk h0 hsp g_d hn hW hcs hal0 (fun r9 M9 h9 => by obtain ⟨e8, e9⟩ := h9; cases e8; exact kk M9 e9)
end CELL
theorem s_cell {M : Mem} {L : Nat} {xs : Nat → Int32} {k : Nat} (hk : k < 1000) (hL : L ≤ 1000) : SpecC mL_cell 1 0 0 [.ref 1000, .int (nI k)] M L xs (dT (some (.int (cellX L xs k))) M) := by
  refine SpecC_of [some (.ref 1000), some (.int (nI k))] (by decide) (Nat.le_of_ble_eq_true rfl) rfl ?_
  by_cases hkl : k < L
  · have e : cellX L xs k = xs k &&& nI 2147483647 := by unfold cellX; rw [if_pos hkl]
    rw [e]
    refine r_iload1 (pc := 0) dL_cell_0 ?_
    refine r_aload0 (pc := 1) dL_cell_1 ?_
    refine r_clen (pc := 2) rfl dL_cell_2 ?_
    refine n_icmp_ge (pc := 3) 12 (by decide) dL_cell_3 (by omega) (by omega) (fun hc3 => absurd hc3 (by omega)) (fun hc3 => ?_)
    refine r_aload0 (pc := 6) dL_cell_6 ?_
    refine r_iload1 (pc := 7) dL_cell_7 ?_
    refine r_scld (pc := 8) rfl hkl dL_cell_8 ?_
    refine r_goto (pc := 9) 22 (by decide) dL_cell_9 ?_
    refine r_ldc (v := nI 2147483647) (pc := 22) (tG 302 (by decide +kernel) (by decide +kernel)) dL_cell_22 ?_
    refine r_iand (pc := 24) dL_cell_24 ?_
    exact p_ireturnC (pc := 25) rfl rfl rfl dL_cell_25 (by decide) (by decide) rfl ⟨rfl, rfl⟩
  · have e : cellX L xs k = nI (15519697 * (k + 3) + 11701) &&& nI 2147483647 := by unfold cellX; rw [if_neg hkl]
    rw [e]
    refine r_iload1 (pc := 0) dL_cell_0 ?_
    refine r_aload0 (pc := 1) dL_cell_1 ?_
    refine r_clen (pc := 2) rfl dL_cell_2 ?_
    refine n_icmp_ge (pc := 3) 12 (by decide) dL_cell_3 (by omega) (by omega) (fun hc3 => ?_) (fun hc3 => absurd hc3 (by omega))
    refine r_ldc (v := nI 15519697) (pc := 12) (tG 301 (by decide +kernel) (by decide +kernel)) dL_cell_12 ?_
    refine r_iload1 (pc := 14) dL_cell_14 ?_
    refine n_iconst_3 (pc := 15) dL_cell_15 ?_
    first | refine n_iadd (pc := 16) dL_cell_16 ?_ | refine z_iadd (pc := 16) dL_cell_16 ?_ | refine r_iadd (pc := 16) dL_cell_16 ?_
    first | refine n_imul (pc := 17) dL_cell_17 ?_ | refine z_imul (pc := 17) dL_cell_17 ?_ | refine r_imul (pc := 17) dL_cell_17 ?_
    refine n_sipush (pc := 18) 11701 (by decide) dL_cell_18 ?_
    first | refine n_iadd (pc := 21) dL_cell_21 ?_ | refine z_iadd (pc := 21) dL_cell_21 ?_ | refine r_iadd (pc := 21) dL_cell_21 ?_
    refine r_ldc (v := nI 2147483647) (pc := 22) (tG 302 (by decide +kernel) (by decide +kernel)) dL_cell_22 ?_
    refine r_iand (pc := 24) dL_cell_24 ?_
    exact p_ireturnC (pc := 25) rfl rfl rfl dL_cell_25 (by decide) (by decide) rfl ⟨rfl, rfl⟩
theorem r_callC {q : MI} {d : Nat} {x : XM} {mc ms : Nat} {oc : TG} {al : Option Nat} {cs ss pc : Nat} {lv : List (Option Value)} {st : List Value} {M : Mem} {L : Nat} {xs : Nat → Int32} {k : Nat} {v : Int32} (hq : q.1.cls = RL) (hxx : x = .inr (.inl (L, xs))) (hal0 : al = none) (h0 : dec q pc = .ok (.invokestatic 193, 3)) (hk : k < 1000) (hL : L ≤ 1000) (hv : cellX L xs k = v) (g_d : 2 ≤ d) (hcs : cs ≤ mc ∧ ss ≤ ms) (hW : (st.map fun v => v.category).sum ≤ 8)
    (kk : G q d x mc ms oc al cs ss (pc + 3) lv (.int v :: st) M) : G q d x mc ms oc al cs ss pc lv (.int (nI k) :: .ref 1000 :: st) M := by
  have lk := lk_L_193
  rw [← hq] at lk
  refine G_callC (as := [.ref 1000, .int (nI k)]) hxx lk h0 (s_cell hk hL) g_d rfl hW hcs hal0 (fun r9 M9 h9 => ?_)
  obtain ⟨e8, e9⟩ := h9
  cases e8
  subst e9
  rw [hv]
  exact kk
abbrev GL (L : Nat) (xs : Nat → Int32) (cs ss pc : Nat) (lv : List (Option Value)) (st : List Value) (M : Mem) : Prop := G mL_law 13 (.inr (.inl (L, xs))) 1142817 5673017 (fun _ _ => True) none cs ss pc lv st M
theorem GL_ret {L : Nat} {xs : Nat → Int32} {cs ss pc : Nat} {lv : List (Option Value)} {M : Mem} (h0 : dec mL_law pc = .ok (.ireturn, 1)) (hcs : cs ≤ 1142817) (hss : ss ≤ 5673017) : GL L xs cs ss pc lv [.int (nI 1)] M := by
  intro p l e R s m args below meth c H locs Q D nx nz ad ca A ls C hd hP hS hal hl
  obtain ⟨hx, hb, hml, hr, hown, hts, hK, hE, hA, hJ, hAd, hlk, hst, hRm, hmd⟩ := id C
  obtain ⟨m1, m2, m3, b, m4, m5, m6, m7, m8⟩ := hmd
  subst m5 m2
  rw [m1]
  refine W.widen hcs hss (va_forget (fun q hq => m8 _ (hS.2.2 q hq)) ?_)
  exact lw_ret hx hb hr.1 hlk h0
section LAWP
variable {M : Mem} {w w1 w2 : WS}
theorem l_act0 (hT : TW M (W2 w1 w2)) (hO : WOK w1) {X : Nat} (hX0 : X < 2147483648) : SpecP mL_act 11 5 30 [.ref 0, .int (nI X)] M (tD0 M (actZ X w1).1 (actZ X w1).2 w2) := by
  have h1 := s_act false hT hO hX0
  unfold tQ at h1
  rw [upW_f] at h1
  exact h1
theorem l_act1 (hT : TW M (W2 w1 w2)) (hO : WOK w2) {X : Nat} (hX0 : X < 2147483648) : SpecP mL_act 11 5 30 [.ref 164, .int (nI X)] M (tD0 M (actZ X w2).1 w1 (actZ X w2).2) := by
  have h1 := s_act true hT hO hX0
  unfold tQ at h1
  rw [upW_t] at h1
  exact h1
theorem l_ref1 (hT : TW M (W2 w1 w2)) (hO : WOK w2) {X : Nat} (hX0 : X < 100000) : SpecP mL_refuses 11 60 360 [.ref 164, .int (nI X)] M (tK M (W2 w1 w2) (nI 1)) := s_refuses true hT hO hX0
theorem l_sound0 (hT : TW M (W2 w w)) (hO : WOK w) (hN : ∀ i, 328 ≤ i → M i = none) : SpecP mL_sound 11 1300 8000 [.ref 0] M (tK M (W2 w w) (nI 1)) := s_sound false hT hO hN
theorem l_sound1 (hT : TW M (W2 w w)) (hO : WOK w) (hN : ∀ i, 328 ≤ i → M i = none) : SpecP mL_sound 11 1300 8000 [.ref 164] M (tK M (W2 w w) (nI 1)) := s_sound true hT hO hN
end LAWP
def LINV (L : Nat) (xs : Nat → Int32) (T k : Nat) : Prop := ∀ (w : WS) (M : Mem) (a6 a7 : Option Value), TW M (W2 w w) → WOK w → (∀ i, 328 ≤ i → M i = none) → GL L xs (328 + 1700 * k) (17956 + 10300 * k) 34 [some (.ref 1000), some (.ref 0), some (.ref 164), some (.int (nI T)), some (.int (nI 1)), some (.int (nI k)), a6, a7] [] M
section LAWL
variable {L T k X : Nat} {xs : Nat → Int32} {M M1 : Mem} {w : WS} {a6 a7 : Option Value}
theorem l_end (hT22 : T ≤ 22) (hk : k < T) (ih : LINV L xs T (k + 1)) (hT : TW M1 (W2 w w)) (hO : WOK w) (hX : ∀ i, 328 ≤ i → M1 i = M i) (hN : ∀ i, 328 ≤ i → M i = none) (hX0 : X < 2147483648) : GL L xs (328 + 1700 * k + 1680) (17956 + 10300 * k + 10180) 157 [some (.ref 1000), some (.ref 0), some (.ref 164), some (.int (nI T)), some (.int (nI 1)), some (.int (nI k)), some (.int (nI X)), a7] [] M1 := by
  by_cases h3 : k % 3 < 2
  · refine r_iload5 (pc := 157) dL_law_157 ?_
    refine n_iconst_3 (pc := 159) dL_law_159 ?_
    refine n_irem (pc := 160) dL_law_160 (by omega) (by omega) (by omega) ?_
    refine n_iconst_2 (pc := 161) dL_law_161 ?_
    refine n_icmp_lt (pc := 162) 182 (by decide) dL_law_162 (by omega) (by omega) (fun hc162 => ?_) (fun hc162 => absurd hc162 (by omega))
    refine n_iconst_1 (pc := 182) dL_law_182 ?_
    refine r_goto (pc := 183) 187 (by decide) dL_law_183 ?_
    refine r_istore4 (pc := 187) dL_law_187 rfl ?_
    refine n_iinc5 (pc := 189) dL_law_189 rfl ?_
    refine r_goto (pc := 192) 34 (by decide) dL_law_192 ?_
    refine G_widen rfl (show _ ≤ 328 + 1700 * (k + 1) by omega) (show _ ≤ 17956 + 10300 * (k + 1) by omega) ?_
    exact ih w _ _ _ hT hO (fun i hi => (hX i hi).trans (hN i hi))
  · refine r_iload5 (pc := 157) dL_law_157 ?_
    refine n_iconst_3 (pc := 159) dL_law_159 ?_
    refine n_irem (pc := 160) dL_law_160 (by omega) (by omega) (by omega) ?_
    refine n_iconst_2 (pc := 161) dL_law_161 ?_
    refine n_icmp_lt (pc := 162) 182 (by decide) dL_law_162 (by omega) (by omega) (fun hc162 => absurd hc162 (by omega)) (fun hc162 => ?_)
    refine r_aload1 (pc := 165) dL_law_165 ?_
    refine r_aload2 (pc := 166) dL_law_166 ?_
    refine n_iconst_1 (pc := 167) dL_law_167 ?_
    refine r_iload6 (pc := 168) dL_law_168 ?_
    refine n_bipush (pc := 170) 13 (by decide) dL_law_170 ?_
    refine n_idiv (pc := 172) dL_law_172 (by omega) (by omega) (by omega) ?_
    refine n_iconst_4 (pc := 173) dL_law_173 ?_
    refine n_irem (pc := 174) dL_law_174 (by omega) (by omega) (by omega) ?_
    first | refine n_iadd (pc := 175) dL_law_175 ?_ | refine z_iadd (pc := 175) dL_law_175 ?_ | refine r_iadd (pc := 175) dL_law_175 ?_
    refine r_callL (rest := []) (pc := 176) lk_L_218 rfl dL_law_176 (s_improves hT hO (m := 1 + X / 13 % 4) (by omega) (by omega)) (by decide) rfl rfl (by decide) ⟨by omega, by omega⟩ (fun M9 h9 => ?_)
    obtain ⟨w3, hO, hT, hY⟩ := h9
    have hX : ∀ i, 328 ≤ i → M9 i = M i := fun i hi => (hY i hi).trans (hX i hi)
    clear hY
    refine n_if_eq (pc := 179) 186 (by decide) dL_law_179 (by omega) (fun hc179 => absurd hc179 (by omega)) (fun hc179 => ?_)
    refine n_iconst_1 (pc := 182) dL_law_182 ?_
    refine r_goto (pc := 183) 187 (by decide) dL_law_183 ?_
    refine r_istore4 (pc := 187) dL_law_187 rfl ?_
    refine n_iinc5 (pc := 189) dL_law_189 rfl ?_
    refine r_goto (pc := 192) 34 (by decide) dL_law_192 ?_
    refine G_widen rfl (show _ ≤ 328 + 1700 * (k + 1) by omega) (show _ ≤ 17956 + 10300 * (k + 1) by omega) ?_
    exact ih w3 _ _ _ hT hO (fun i hi => (hX i hi).trans (hN i hi))
set_option maxRecDepth 20000 in
theorem l_step (hT22 : T ≤ 22) (hL1 : L ≤ 1000) (hk : k < T) (ih : LINV L xs T (k + 1)) : LINV L xs T k := by
  intro w M a6 a7 hT hO hN
  have hX : ∀ i, 328 ≤ i → M i = M i := fun _ _ => rfl
  obtain ⟨X, hX0, hXe⟩ := and_pos (if 1 + k < L then xs (1 + k) else nI (15519697 * (1 + k + 3) + 11701))
  have hXe : cellX L xs (1 + k) = nI X := hXe
  refine r_iload5 (pc := 34) dL_law_34 ?_
  refine r_iload3 (pc := 36) dL_law_36 ?_
  refine n_icmp_ge (pc := 37) 195 (by decide) dL_law_37 (by omega) (by omega) (fun hc37 => absurd hc37 (by omega)) (fun hc37 => ?_)
  refine r_iload4 (pc := 40) dL_law_40 ?_
  refine n_if_eq (pc := 42) 195 (by decide) dL_law_42 (by omega) (fun hc42 => absurd hc42 (by omega)) (fun hc42 => ?_)
  refine r_aload0 (pc := 45) dL_law_45 ?_
  refine n_iconst_1 (pc := 46) dL_law_46 ?_
  refine r_iload5 (pc := 47) dL_law_47 ?_
  first | refine n_iadd (pc := 49) dL_law_49 ?_ | refine z_iadd (pc := 49) dL_law_49 ?_ | refine r_iadd (pc := 49) dL_law_49 ?_
  refine r_callC (pc := 50) rfl rfl rfl dL_law_50 (by omega) hL1 hXe (by decide) ⟨by omega, by omega⟩ (by decide) ?_
  refine r_istore6 (pc := 53) dL_law_53 rfl ?_
  refine r_aload1 (pc := 55) dL_law_55 ?_
  refine r_iload6 (pc := 56) dL_law_56 ?_
  refine r_callL (rest := []) (pc := 58) lk_L_197 rfl dL_law_58 (l_act0 hT hO hX0) (by decide) rfl rfl (by decide) ⟨by omega, by omega⟩ (fun M9 h9 => ?_)
  obtain ⟨hT, hY⟩ := h9
  have hX : ∀ i, 328 ≤ i → M9 i = M i := fun i hi => (hY i hi).trans (hX i hi)
  clear hY
  refine r_istore7 (pc := 61) dL_law_61 rfl ?_
  refine r_aload2 (pc := 63) dL_law_63 ?_
  refine r_iload6 (pc := 64) dL_law_64 ?_
  refine r_ldc (v := nI 100000) (pc := 66) (tG 1051 (by decide +kernel) (by decide +kernel)) dL_law_66 ?_
  refine n_irem (pc := 68) dL_law_68 (by omega) (by omega) (by omega) ?_
  refine r_callL (rest := []) (pc := 69) lk_L_201 rfl dL_law_69 (l_ref1 hT hO (by omega)) (by decide) rfl rfl (by decide) ⟨by omega, by omega⟩ (fun M9 h9 => ?_)
  obtain ⟨hT, hY⟩ := h9
  have hX : ∀ i, 328 ≤ i → M9 i = M i := fun i hi => (hY i hi).trans (hX i hi)
  clear hY
  refine n_if_eq (pc := 72) 186 (by decide) dL_law_72 (by omega) (fun hc72 => absurd hc72 (by omega)) (fun hc72 => ?_)
  refine r_aload2 (pc := 75) dL_law_75 ?_
  refine r_iload6 (pc := 76) dL_law_76 ?_
  refine r_callL (rest := []) (pc := 78) lk_L_197 rfl dL_law_78 (l_act1 hT hO hX0) (by decide) rfl rfl (by decide) ⟨by omega, by omega⟩ (fun M9 h9 => ?_)
  obtain ⟨hT, hY⟩ := h9
  have hX : ∀ i, 328 ≤ i → M9 i = M i := fun i hi => (hY i hi).trans (hX i hi)
  clear hY
  refine r_iload7 (pc := 81) dL_law_81 ?_
  refine r_icmp_ne (pc := 83) 186 (by decide) dL_law_83 (fun h9 => absurd rfl h9) (fun _ => ?_)
  refine r_aload1 (pc := 86) dL_law_86 ?_
  refine r_aload2 (pc := 87) dL_law_87 ?_
  refine r_iload6 (pc := 88) dL_law_88 ?_
  refine n_sipush (pc := 90) 5000 (by decide) dL_law_90 ?_
  refine n_irem (pc := 93) dL_law_93 (by omega) (by omega) (by omega) ?_
  refine r_callL (rest := []) (pc := 94) lk_L_205 rfl dL_law_94 (s_alike hT (wok_act hO X) (by omega)) (by decide) rfl rfl (by decide) ⟨by omega, by omega⟩ (fun M9 h9 => ?_)
  obtain ⟨hT, hY⟩ := h9
  have hX : ∀ i, 328 ≤ i → M9 i = M i := fun i hi => (hY i hi).trans (hX i hi)
  clear hY
  refine n_if_eq (pc := 97) 186 (by decide) dL_law_97 (by omega) (fun hc97 => absurd hc97 (by omega)) (fun hc97 => ?_)
  have hO1 := wok_act hO X
  have hN9 : ∀ i, 328 ≤ i → M9 i = none := fun i hi => (hX i hi).trans (hN i hi)
  by_cases h2 : k % 2 = 0
  · refine r_iload5 (pc := 100) dL_law_100 ?_
    refine n_iconst_2 (pc := 102) dL_law_102 ?_
    refine n_irem (pc := 103) dL_law_103 (by omega) (by omega) (by omega) ?_
    refine n_if_ne (pc := 104) 117 (by decide) dL_law_104 (by omega) (fun hc104 => absurd hc104 (by omega)) (fun hc104 => ?_)
    refine r_aload1 (pc := 107) dL_law_107 ?_
    refine r_callL2 (rest := []) (pc := 108) lk_L_209 rfl dL_law_108 (l_sound0 hT hO1 hN9) (by decide) rfl rfl (by decide) ⟨by omega, by omega⟩ (fun M9 h9 => ?_)
    obtain ⟨hT, hY⟩ := h9
    have hX : ∀ i, 328 ≤ i → M9 i = M i := fun i hi => (hY i hi).trans (hX i hi)
    clear hY
    refine n_if_eq (pc := 111) 186 (by decide) dL_law_111 (by omega) (fun hc111 => absurd hc111 (by omega)) (fun hc111 => ?_)
    refine r_goto (pc := 114) 124 (by decide) dL_law_114 ?_
    refine r_aload1 (pc := 124) dL_law_124 ?_
    refine r_aload2 (pc := 125) dL_law_125 ?_
    refine r_iload6 (pc := 126) dL_law_126 ?_
    refine n_bipush (pc := 128) 7 (by decide) dL_law_128 ?_
    refine n_idiv (pc := 130) dL_law_130 (by omega) (by omega) (by omega) ?_
    refine r_callL (rest := []) (pc := 131) lk_L_213 rfl dL_law_131 (s_gains hT hO1 (by omega)) (by decide) rfl rfl (by decide) ⟨by omega, by omega⟩ (fun M9 h9 => ?_)
    obtain ⟨w3, hO3, hT, hY⟩ := h9
    have hX : ∀ i, 328 ≤ i → M9 i = M i := fun i hi => (hY i hi).trans (hX i hi)
    clear hY
    refine n_if_eq (pc := 134) 186 (by decide) dL_law_134 (by omega) (fun hc134 => absurd hc134 (by omega)) (fun hc134 => ?_)
    refine r_iload5 (pc := 137) dL_law_137 ?_
    refine n_iconst_2 (pc := 139) dL_law_139 ?_
    refine n_irem (pc := 140) dL_law_140 (by omega) (by omega) (by omega) ?_
    refine n_if_gt (pc := 141) 157 (by decide) dL_law_141 (by omega) (fun hc141 => absurd hc141 (by omega)) (fun hc141 => ?_)
    refine r_aload1 (pc := 144) dL_law_144 ?_
    refine r_aload2 (pc := 145) dL_law_145 ?_
    refine r_iload6 (pc := 146) dL_law_146 ?_
    refine n_bipush (pc := 148) 11 (by decide) dL_law_148 ?_
    refine n_idiv (pc := 150) dL_law_150 (by omega) (by omega) (by omega) ?_
    refine r_callL (rest := []) (pc := 151) lk_L_216 rfl dL_law_151 (s_best hT hO3 (by omega)) (by decide) rfl rfl (by decide) ⟨by omega, by omega⟩ (fun M9 h9 => ?_)
    obtain ⟨hT, hY⟩ := h9
    have hX : ∀ i, 328 ≤ i → M9 i = M i := fun i hi => (hY i hi).trans (hX i hi)
    clear hY
    refine n_if_eq (pc := 154) 186 (by decide) dL_law_154 (by omega) (fun hc154 => absurd hc154 (by omega)) (fun hc154 => ?_)
    refine G_widen rfl (show _ ≤ 328 + 1700 * k + 1680 by omega) (show _ ≤ 17956 + 10300 * k + 10180 by omega) ?_
    exact l_end hT22 hk ih hT hO3 hX hN hX0
  · refine r_iload5 (pc := 100) dL_law_100 ?_
    refine n_iconst_2 (pc := 102) dL_law_102 ?_
    refine n_irem (pc := 103) dL_law_103 (by omega) (by omega) (by omega) ?_
    refine n_if_ne (pc := 104) 117 (by decide) dL_law_104 (by omega) (fun hc104 => ?_) (fun hc104 => absurd hc104 (by omega))
    refine r_aload2 (pc := 117) dL_law_117 ?_
    refine r_callL2 (rest := []) (pc := 118) lk_L_209 rfl dL_law_118 (l_sound1 hT hO1 hN9) (by decide) rfl rfl (by decide) ⟨by omega, by omega⟩ (fun M9 h9 => ?_)
    obtain ⟨hT, hY⟩ := h9
    have hX : ∀ i, 328 ≤ i → M9 i = M i := fun i hi => (hY i hi).trans (hX i hi)
    clear hY
    refine n_if_eq (pc := 121) 186 (by decide) dL_law_121 (by omega) (fun hc121 => absurd hc121 (by omega)) (fun hc121 => ?_)
    refine r_aload1 (pc := 124) dL_law_124 ?_
    refine r_aload2 (pc := 125) dL_law_125 ?_
    refine r_iload6 (pc := 126) dL_law_126 ?_
    refine n_bipush (pc := 128) 7 (by decide) dL_law_128 ?_
    refine n_idiv (pc := 130) dL_law_130 (by omega) (by omega) (by omega) ?_
    refine r_callL (rest := []) (pc := 131) lk_L_213 rfl dL_law_131 (s_gains hT hO1 (by omega)) (by decide) rfl rfl (by decide) ⟨by omega, by omega⟩ (fun M9 h9 => ?_)
    obtain ⟨w3, hO3, hT, hY⟩ := h9
    have hX : ∀ i, 328 ≤ i → M9 i = M i := fun i hi => (hY i hi).trans (hX i hi)
    clear hY
    refine n_if_eq (pc := 134) 186 (by decide) dL_law_134 (by omega) (fun hc134 => absurd hc134 (by omega)) (fun hc134 => ?_)
    refine r_iload5 (pc := 137) dL_law_137 ?_
    refine n_iconst_2 (pc := 139) dL_law_139 ?_
    refine n_irem (pc := 140) dL_law_140 (by omega) (by omega) (by omega) ?_
    refine n_if_gt (pc := 141) 157 (by decide) dL_law_141 (by omega) (fun hc141 => ?_) (fun hc141 => absurd hc141 (by omega))
    refine G_widen rfl (show _ ≤ 328 + 1700 * k + 1680 by omega) (show _ ≤ 17956 + 10300 * k + 10180 by omega) ?_
    exact l_end hT22 hk ih hT hO3 hX hN hX0
theorem lw_loop (hT22 : T ≤ 22) (hL1 : L ≤ 1000) : LINV L xs T 0 := by
  refine up_to (N := T) (k := 0) (fun k => LINV L xs T k) ?_ (fun k hk ih => l_step hT22 hL1 hk ih) (Nat.zero_le _)
  intro w M a6 a7 hT hO hN
  refine r_iload5 (pc := 34) dL_law_34 ?_
  refine r_iload3 (pc := 36) dL_law_36 ?_
  refine n_icmp_ge (pc := 37) 195 (by decide) dL_law_37 (by omega) (by omega) (fun hc37 => ?_) (fun hc37 => absurd hc37 (by omega))
  refine r_iload4 (pc := 195) dL_law_195 ?_
  exact GL_ret (pc := 197) dL_law_197 (by omega) (by omega)
end LAWL
