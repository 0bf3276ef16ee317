section CALLS
variable {q : MI} {d : Nat} {x : XM} {mc ms : Nat} {oc : Option Value ⊕ String} {M' : Mem} {al : Option Nat} {cs ss pc : Nat} {lv : List (Option Value)} {st : List Value} {M : Mem}
abbrev nMH (y : MethodName) : Prop := y.cls ≠ "java/lang/invoke/MethodHandle" ∧ y.cls ≠ "java/lang/invoke/VarHandle"
abbrev nPar (y : MethodName) : Option Nat := (parseMethodDescriptor y.desc).map (fun z => z.parameters.length)
def LkS (own : String) (idx : Nat) (y : MI) (n : Nat) : Prop := Cond.methodLink own idx y.1 ∈ tblG ∧ Cond.static y.1 ∈ tblG ∧ Cond.initialized y.1.cls ∈ tblG ∧ Cond.code y.1 (mC y) (mL y) (mR y) ∈ tblG ∧ nMH y.1 ∧ nPar y.1 = some n ∧ mL y ≤ 21
def LkN (own : String) (idx : Nat) (y : MI) (n : Nat) : Prop := Cond.methodLinkNest own idx y.1 "PipPortrait" ∈ nests ∧ Cond.static y.1 ∈ tblG ∧ Cond.initialized y.1.cls ∈ tblG ∧ Cond.code y.1 (mC y) (mL y) (mR y) ∈ tblG ∧ nMH y.1 ∧ nPar y.1 = some n ∧ mL y ≤ 21
def LkV (own : String) (idx : Nat) (y : MI) (n ci : Nat) : Prop := Cond.methodLink own idx y.1 ∈ tblG ∧ Cond.instanceMethod y.1 ∈ tblG ∧ Cond.selects y.1.cls y.1 y.1 ∈ tblG ∧ Cond.initialized y.1.cls ∈ tblG ∧ Cond.code y.1 (mC y) (mL y) (mR y) ∈ tblG ∧ nMH y.1 ∧ nPar y.1 = some n ∧ mL y ≤ 21 ∧ ∃ T N, vwCl[ci]? = some (y.1.cls, T, N)
def LkI (own : String) (idx : Nat) (y : MI) (n : Nat) : Prop := Cond.methodLink own idx y.1 ∈ tblG ∧ Cond.instanceMethod y.1 ∈ tblG ∧ Cond.initialized y.1.cls ∈ tblG ∧ Cond.code y.1 (mC y) (mL y) (mR y) ∈ tblG ∧ nMH y.1 ∧ nPar y.1 = some n ∧ mL y ≤ 21 ∧ y.1.name = "<init>" ∧ mR y = none
def LkIN (own : String) (idx : Nat) (y : MI) (n : Nat) : Prop := Cond.methodLinkNest own idx y.1 "PipPortrait" ∈ nests ∧ Cond.instanceMethod y.1 ∈ tblG ∧ Cond.initialized y.1.cls ∈ tblG ∧ Cond.code y.1 (mC y) (mL y) (mR y) ∈ tblG ∧ nMH y.1 ∧ nPar y.1 = some n ∧ mL y ≤ 21 ∧ y.1.name = "<init>" ∧ mR y = none
theorem tblG_good : ∀ w ∈ tblG, (w.onTables && w.keeps) = true ∨ ∃ ty, w = .arrayClass ty := fun w h => good_of_word (List.mem_filter.mp h).2
/-- words of a callee, among those that hold -/
theorem wsU_warm {y : MI} {args : Array Value} {s : State} (hts : ∀ w ∈ tblG, w.before args s = true) (hc : Cond.code y.1 (mC y) (mL y) (mR y) ∈ tblG) : ∀ w ∈ wsU y, ∀ (a' : Array Value) (U : State), s.WarmedH U.vm → w.before a' U = true :=
  pay_in hts (fun w hw => by
    rcases List.mem_cons.mp hw with h | h
    · rw [h]; exact ⟨hc, tblG_good _ hc⟩
    · exact ⟨h, tblG_good w h⟩)
theorem p_call {p : Program} {l : Launch} {e : Env} {R : Room} {s : State} {m : MethodId} {args : Array Value} {below : List Frame} {meth : Method} {c : Code} {H : Heap} {locs : List Loc} {cells slots mc' ms' : Nat} {Q : State → Prop} {pc : Nat} {ls : Array Slot} {st0 rest : List Value} {a : Array Value} {D : va_G} {nz : Nat} {ad : Nat → Nat} {ca : Nat → ClassId} {A A1 : Nat → Prop} {r : Option Value} {M1 : Mem}
    (hr : va_Run p l e R s m args below meth c H locs cells slots mc' ms' (F0 m pc ls st0) rest (pQ D nz ad ca A1 (.inl r) M1 a) A1) (hS : va_S A s.heap H locs) (hA : ∀ q, A1 q → A q)
    (kk : ∀ (H1 : Heap) (locs1 : List Loc), pDom nz M1 → va_P D vwCl (wl nz ad ca M1) H1 → va_S A s.heap H1 locs1 → W p l e R s m args below meth c H1 locs1 (cells + mc') (slots + ms') Q (F0 m (pc + 3) ls ((r.map (cvV ad)).toList ++ rest))) : W p l e R s m args below meth c H locs cells slots Q (F0 m pc ls st0) := by
  intro T hT X
  obtain ⟨v, st₀, t, T', L, h0, X', hL, e1, e2, ⟨⟨v0, hv0, hv⟩, hd, hP, hz, hk⟩, st⟩ := hr T hT X
  cases hv0
  cases hv
  rw [h0] at hz hk
  obtain ⟨t2, a1, b1⟩ := kk T'.heap (locs ++ L) hd (by rw [e1]; exact hP)
    ⟨Nat.le_trans hS.1 (by rw [e1]; exact hz), fun q h1 h2 => by rw [e1, hk q (Nat.lt_of_lt_of_le h1 hS.1) (fun z => h2 (hA q z))]; exact hS.2.1 q h1 h2, fun q hq => by
      rcases List.mem_append.mp hq with h | h
      · exact hS.2.2 q h
      · exact hA _ (hL q h)⟩ T' rfl X'
  exact ⟨t2, st t2 a1, b1⟩
theorem p_sub {nx : Nat} {ad : Nat → Nat} {A : Nat → Prop} {s : State} {H : Heap} {locs : List Loc} (hS : va_S A s.heap H locs) (hA : ∀ a : Nat, s.heap.size ≤ a → A a) (hAd : ∀ i, i < nx → A (ad i)) : ∀ a, pAA nx ad H.size a → A a := by
  intro a h
  rcases h with ⟨i, hi, e⟩ | h
  · rw [e]; exact hAd i hi
  · exact hA a (Nat.le_trans hS.1 h)
theorem lvOK.size {ad : Nat → Nat} {n : Nat} {lv : List (Option Value)} {ls : Array Slot} (h : lvOK ad n lv ls) : ls.size = n := h.1
theorem G_callS {y : MI} {d' n idx mc' ms' : Nat} {as rest : List Value} {r : Option Value} {M1 : Mem} (lk : LkS q.1.cls idx y n) (h0 : dec q pc = .ok (.invokestatic idx, 3)) (hsp : Spec y d' mc' ms' as M r M1) (g_d : d' + 1 ≤ d) (hn : as.length = n) (hW : (rest.map fun v => v.category).sum ≤ 8) (hcs : cs + mc' ≤ mc ∧ ss + ms' ≤ ms) (hal0 : al = none ∨ mc' = 0)
    (k : G q d x mc ms oc M' al (cs + mc') (ss + ms') (pc + 3) lv (r.toList ++ rest) M1) : G q d x mc ms oc M' al cs ss pc lv (as.reverse ++ rest) M := by
  intro p l e R s m args below meth c H locs Q D nx nz ad ca A ls C hd hP hS hal hl
  obtain ⟨hx, hb, hml, hr, hown, hts, hK, hE, hA, hJ, hAd, hlk, hst, hRm, hmd⟩ := id C
  obtain ⟨g_l, g_s, g_i, g_c, g_m, g_p, g_x⟩ := lk
  refine p_call (A1 := pAA nx ad H.size) (D := D) (nz := nx) (ad := ad) (ca := ca) (r := r) (M1 := M1) (rest := rest.map (cvV ad)) (va_runS (As := as.map (cvV ad)) (n := n) ⟨hx, hb, hml, hown, hts⟩ (hsp l D nx ad ca H.size hst) ⟨⟨rfl, rfl, Nat.le_trans g_d hRm.1, by show 8 + (mL y + 11) + 40 * d' ≤ R.locals; have := hRm.2.1; omega, wsU_warm hts g_c, List.mem_cons_self, hts _ g_c, hts _ g_i, g_m, fun sig h => by unfold nPar at g_p; rw [h] at g_p; exact (Option.some.inj g_p).symm, hts _ g_l⟩, hts _ g_s⟩ ⟨pPre_blind, fun U hU hW => ⟨rfl, by rw [hU], hd, hJ, by rw [hU]; exact hP, va_K.moved hW.alike hK, by rw [hU]; exact pE.go hE hS hW (p_sub hS hA hAd)⟩⟩ rfl (by rw [List.length_map]; exact hn) (by show ls.size = mL q; exact hl.size) (by show _ = _; rw [List.map_append, List.map_reverse]) (by show 2 * 0 + _ ≤ 8; rw [cv_sum]; omega) h0 (by have := hRm.2.2; omega)) hS (p_sub hS hA hAd) (fun H1 locs1 hd1 hP1 hS1 => ?_)
  have e9 : (r.map (cvV ad)).toList ++ rest.map (cvV ad) = (r.toList ++ rest).map (cvV ad) := by cases r <;> simp
  rw [e9]
  exact k p l e R s m args below meth c H1 locs1 Q D nx nz ad ca A ls C hd1 hP1 hS1 (by rcases hal0 with h | h <;> subst h <;> exact hal) hl
theorem G_callN {y : MI} {d' n idx mc' ms' : Nat} {as rest : List Value} {r : Option Value} {M1 : Mem} (lk : LkN q.1.cls idx y n) (h0 : dec q pc = .ok (.invokestatic idx, 3)) (hsp : Spec y d' mc' ms' as M r M1) (g_d : d' + 1 ≤ d) (hn : as.length = n) (hW : (rest.map fun v => v.category).sum ≤ 8) (hcs : cs + mc' ≤ mc ∧ ss + ms' ≤ ms) (hal0 : al = none ∨ mc' = 0)
    (k : G q d x mc ms oc M' al (cs + mc') (ss + ms') (pc + 3) lv (r.toList ++ rest) M1) : G q d x mc ms oc M' al cs ss pc lv (as.reverse ++ rest) M := by
  intro p l e R s m args below meth c H locs Q D nx nz ad ca A ls C hd hP hS hal hl
  obtain ⟨hx, hb, hml, hr, hown, hts, hK, hE, hA, hJ, hAd, hlk, hst, hRm, hmd⟩ := id C
  obtain ⟨g_l, g_s, g_i, g_c, g_m, g_p, g_x⟩ := lk
  refine p_call (A1 := pAA nx ad H.size) (D := D) (nz := nx) (ad := ad) (ca := ca) (r := r) (M1 := M1) (rest := rest.map (cvV ad)) (va_runSN (As := as.map (cvV ad)) (n := n) (host := "PipPortrait") ⟨hx, hb, hml, hown, hts⟩ (hsp l D nx ad ca H.size hst) ⟨⟨⟨rfl, rfl, Nat.le_trans g_d hRm.1, by show 8 + (mL y + 11) + 40 * d' ≤ R.locals; have := hRm.2.1; omega, wsU_warm hts g_c, List.mem_cons_self⟩, hts _ g_c, hts _ g_i, g_m, fun sig h => by unfold nPar at g_p; rw [h] at g_p; exact (Option.some.inj g_p).symm, va_Nw.use rfl (hE.2.2.2.2.2 _ g_l)⟩, hts _ g_s, trivial⟩ ⟨pPre_blind, fun U hU hW => ⟨rfl, by rw [hU], hd, hJ, by rw [hU]; exact hP, va_K.moved hW.alike hK, by rw [hU]; exact pE.go hE hS hW (p_sub hS hA hAd)⟩⟩ rfl (by rw [List.length_map]; exact hn) (by show ls.size = mL q; exact hl.size) (by show _ = _; rw [List.map_append, List.map_reverse]) (by show 2 * 0 + _ ≤ 8; rw [cv_sum]; omega) h0 (by have := hRm.2.2; omega)) hS (p_sub hS hA hAd) (fun H1 locs1 hd1 hP1 hS1 => ?_)
  have e9 : (r.map (cvV ad)).toList ++ rest.map (cvV ad) = (r.toList ++ rest).map (cvV ad) := by cases r <;> simp
  rw [e9]
  exact k p l e R s m args below meth c H1 locs1 Q D nx nz ad ca A ls C hd1 hP1 hS1 (by rcases hal0 with h | h <;> subst h <;> exact hal) hl
theorem G_callV {y : MI} {d' n idx mc' ms' : Nat} {as rest : List Value} {r : Option Value} {M1 : Mem} {b ci : Nat} {vs : List Value} (lk : LkV q.1.cls idx y n ci) (h0 : dec q pc = .ok (.invokevirtual idx, 3)) (hM : M b = some (cO ci vs)) (hsp : Spec y d' mc' ms' (.ref b :: as) M r M1) (g_d : d' + 1 ≤ d) (hn : as.length = n) (hW : (rest.map fun v => v.category).sum ≤ 8) (hcs : cs + mc' ≤ mc ∧ ss + ms' ≤ ms) (hal0 : al = none ∨ mc' = 0)
    (k : G q d x mc ms oc M' al (cs + mc') (ss + ms') (pc + 3) lv (r.toList ++ rest) M1) : G q d x mc ms oc M' al cs ss pc lv (as.reverse ++ .ref b :: rest) M := by
  intro p l e R s m args below meth c H locs Q D nx nz ad ca A ls C hd hP hS hal hl
  obtain ⟨hx, hb, hml, hr, hown, hts, hK, hE, hA, hJ, hAd, hlk, hst, hRm, hmd⟩ := id C
  obtain ⟨g_l, g_s, g_se, g_i, g_c, g_m, g_p, g_x, T9, N9, g_v⟩ := lk
  refine p_call (A1 := pAA nx ad H.size) (D := D) (nz := nx) (ad := ad) (ca := ca) (r := r) (M1 := M1) (rest := rest.map (cvV ad)) (va_runV (As := as.map (cvV ad)) (b := ad b) (C := y.1.cls) (n := n) ⟨hx, hb, hml, hown, hts⟩ (hsp l D nx ad ca H.size hst) ⟨⟨rfl, rfl, Nat.le_trans g_d hRm.1, by show 8 + (mL y + 11) + 40 * d' ≤ R.locals; have := hRm.2.1; omega, wsU_warm hts g_c, List.mem_cons_self, hts _ g_c, hts _ g_i, g_m, fun sig h => by unfold nPar at g_p; rw [h] at g_p; exact (Option.some.inj g_p).symm, hts _ g_l⟩, hts _ g_s, hts _ g_se⟩ ⟨pPre_blind, va_recv (q := (y.1.cls, T9, N9)) hK hP g_v (wl_at (hd b _ hM) hM), fun U hU hW => ⟨rfl, by rw [hU], hd, hJ, by rw [hU]; exact hP, va_K.moved hW.alike hK, by rw [hU]; exact pE.go hE hS hW (p_sub hS hA hAd)⟩⟩ rfl (by rw [List.length_map]; exact hn) (by show ls.size = mL q; exact hl.size) (by show _ = _; rw [List.map_append, List.map_reverse]; rfl) (by show 2 * 0 + _ ≤ 8; rw [cv_sum]; omega) h0 (by have := hRm.2.2; omega)) hS (p_sub hS hA hAd) (fun H1 locs1 hd1 hP1 hS1 => ?_)
  have e9 : (r.map (cvV ad)).toList ++ rest.map (cvV ad) = (r.toList ++ rest).map (cvV ad) := by cases r <;> simp
  rw [e9]
  exact k p l e R s m args below meth c H1 locs1 Q D nx nz ad ca A ls C hd1 hP1 hS1 (by rcases hal0 with h | h <;> subst h <;> exact hal) hl
theorem r_callS0v {y : MI} {d' idx : Nat} {M1 : Mem} (lk : LkS q.1.cls idx y 0) (h0 : dec q pc = .ok (.invokestatic idx, 3)) (hsp : Spec y d' 0 0 [] M none M1) (g_d : d' + 1 ≤ d) (hW : (st.map fun v => v.category).sum ≤ 8) (hcs : cs ≤ mc ∧ ss ≤ ms) (k : G q d x mc ms oc M' al cs ss (pc + 3) lv st M1) : G q d x mc ms oc M' al cs ss pc lv (st) M := G_callS (as := []) lk h0 hsp g_d rfl hW hcs (Or.inr rfl) k
theorem r_callS0i {y : MI} {d' idx : Nat} {M1 : Mem} {v : Value} (lk : LkS q.1.cls idx y 0) (h0 : dec q pc = .ok (.invokestatic idx, 3)) (hsp : Spec y d' 0 0 [] M (some v) M1) (g_d : d' + 1 ≤ d) (hW : (st.map fun v => v.category).sum ≤ 8) (hcs : cs ≤ mc ∧ ss ≤ ms) (k : G q d x mc ms oc M' al cs ss (pc + 3) lv (v :: st) M1) : G q d x mc ms oc M' al cs ss pc lv (st) M := G_callS (as := []) lk h0 hsp g_d rfl hW hcs (Or.inr rfl) k
theorem r_callS1v {y : MI} {d' idx : Nat} {M1 : Mem} {w1 : Value} (lk : LkS q.1.cls idx y 1) (h0 : dec q pc = .ok (.invokestatic idx, 3)) (hsp : Spec y d' 0 0 [w1] M none M1) (g_d : d' + 1 ≤ d) (hW : (st.map fun v => v.category).sum ≤ 8) (hcs : cs ≤ mc ∧ ss ≤ ms) (k : G q d x mc ms oc M' al cs ss (pc + 3) lv st M1) : G q d x mc ms oc M' al cs ss pc lv (w1 :: st) M := G_callS (as := [w1]) lk h0 hsp g_d rfl hW hcs (Or.inr rfl) k
theorem r_callS1i {y : MI} {d' idx : Nat} {M1 : Mem} {w1 : Value} {v : Value} (lk : LkS q.1.cls idx y 1) (h0 : dec q pc = .ok (.invokestatic idx, 3)) (hsp : Spec y d' 0 0 [w1] M (some v) M1) (g_d : d' + 1 ≤ d) (hW : (st.map fun v => v.category).sum ≤ 8) (hcs : cs ≤ mc ∧ ss ≤ ms) (k : G q d x mc ms oc M' al cs ss (pc + 3) lv (v :: st) M1) : G q d x mc ms oc M' al cs ss pc lv (w1 :: st) M := G_callS (as := [w1]) lk h0 hsp g_d rfl hW hcs (Or.inr rfl) k
theorem r_callS2v {y : MI} {d' idx : Nat} {M1 : Mem} {w1 w2 : Value} (lk : LkS q.1.cls idx y 2) (h0 : dec q pc = .ok (.invokestatic idx, 3)) (hsp : Spec y d' 0 0 [w1, w2] M none M1) (g_d : d' + 1 ≤ d) (hW : (st.map fun v => v.category).sum ≤ 8) (hcs : cs ≤ mc ∧ ss ≤ ms) (k : G q d x mc ms oc M' al cs ss (pc + 3) lv st M1) : G q d x mc ms oc M' al cs ss pc lv (w2 :: w1 :: st) M := G_callS (as := [w1, w2]) lk h0 hsp g_d rfl hW hcs (Or.inr rfl) k
theorem r_callS2i {y : MI} {d' idx : Nat} {M1 : Mem} {w1 w2 : Value} {v : Value} (lk : LkS q.1.cls idx y 2) (h0 : dec q pc = .ok (.invokestatic idx, 3)) (hsp : Spec y d' 0 0 [w1, w2] M (some v) M1) (g_d : d' + 1 ≤ d) (hW : (st.map fun v => v.category).sum ≤ 8) (hcs : cs ≤ mc ∧ ss ≤ ms) (k : G q d x mc ms oc M' al cs ss (pc + 3) lv (v :: st) M1) : G q d x mc ms oc M' al cs ss pc lv (w2 :: w1 :: st) M := G_callS (as := [w1, w2]) lk h0 hsp g_d rfl hW hcs (Or.inr rfl) k
theorem r_callS3v {y : MI} {d' idx : Nat} {M1 : Mem} {w1 w2 w3 : Value} (lk : LkS q.1.cls idx y 3) (h0 : dec q pc = .ok (.invokestatic idx, 3)) (hsp : Spec y d' 0 0 [w1, w2, w3] M none M1) (g_d : d' + 1 ≤ d) (hW : (st.map fun v => v.category).sum ≤ 8) (hcs : cs ≤ mc ∧ ss ≤ ms) (k : G q d x mc ms oc M' al cs ss (pc + 3) lv st M1) : G q d x mc ms oc M' al cs ss pc lv (w3 :: w2 :: w1 :: st) M := G_callS (as := [w1, w2, w3]) lk h0 hsp g_d rfl hW hcs (Or.inr rfl) k
theorem r_callS3i {y : MI} {d' idx : Nat} {M1 : Mem} {w1 w2 w3 : Value} {v : Value} (lk : LkS q.1.cls idx y 3) (h0 : dec q pc = .ok (.invokestatic idx, 3)) (hsp : Spec y d' 0 0 [w1, w2, w3] M (some v) M1) (g_d : d' + 1 ≤ d) (hW : (st.map fun v => v.category).sum ≤ 8) (hcs : cs ≤ mc ∧ ss ≤ ms) (k : G q d x mc ms oc M' al cs ss (pc + 3) lv (v :: st) M1) : G q d x mc ms oc M' al cs ss pc lv (w3 :: w2 :: w1 :: st) M := G_callS (as := [w1, w2, w3]) lk h0 hsp g_d rfl hW hcs (Or.inr rfl) k
theorem r_callS4v {y : MI} {d' idx : Nat} {M1 : Mem} {w1 w2 w3 w4 : Value} (lk : LkS q.1.cls idx y 4) (h0 : dec q pc = .ok (.invokestatic idx, 3)) (hsp : Spec y d' 0 0 [w1, w2, w3, w4] M none M1) (g_d : d' + 1 ≤ d) (hW : (st.map fun v => v.category).sum ≤ 8) (hcs : cs ≤ mc ∧ ss ≤ ms) (k : G q d x mc ms oc M' al cs ss (pc + 3) lv st M1) : G q d x mc ms oc M' al cs ss pc lv (w4 :: w3 :: w2 :: w1 :: st) M := G_callS (as := [w1, w2, w3, w4]) lk h0 hsp g_d rfl hW hcs (Or.inr rfl) k
theorem r_callS4i {y : MI} {d' idx : Nat} {M1 : Mem} {w1 w2 w3 w4 : Value} {v : Value} (lk : LkS q.1.cls idx y 4) (h0 : dec q pc = .ok (.invokestatic idx, 3)) (hsp : Spec y d' 0 0 [w1, w2, w3, w4] M (some v) M1) (g_d : d' + 1 ≤ d) (hW : (st.map fun v => v.category).sum ≤ 8) (hcs : cs ≤ mc ∧ ss ≤ ms) (k : G q d x mc ms oc M' al cs ss (pc + 3) lv (v :: st) M1) : G q d x mc ms oc M' al cs ss pc lv (w4 :: w3 :: w2 :: w1 :: st) M := G_callS (as := [w1, w2, w3, w4]) lk h0 hsp g_d rfl hW hcs (Or.inr rfl) k
theorem r_callS5v {y : MI} {d' idx : Nat} {M1 : Mem} {w1 w2 w3 w4 w5 : Value} (lk : LkS q.1.cls idx y 5) (h0 : dec q pc = .ok (.invokestatic idx, 3)) (hsp : Spec y d' 0 0 [w1, w2, w3, w4, w5] M none M1) (g_d : d' + 1 ≤ d) (hW : (st.map fun v => v.category).sum ≤ 8) (hcs : cs ≤ mc ∧ ss ≤ ms) (k : G q d x mc ms oc M' al cs ss (pc + 3) lv st M1) : G q d x mc ms oc M' al cs ss pc lv (w5 :: w4 :: w3 :: w2 :: w1 :: st) M := G_callS (as := [w1, w2, w3, w4, w5]) lk h0 hsp g_d rfl hW hcs (Or.inr rfl) k
theorem r_callS5i {y : MI} {d' idx : Nat} {M1 : Mem} {w1 w2 w3 w4 w5 : Value} {v : Value} (lk : LkS q.1.cls idx y 5) (h0 : dec q pc = .ok (.invokestatic idx, 3)) (hsp : Spec y d' 0 0 [w1, w2, w3, w4, w5] M (some v) M1) (g_d : d' + 1 ≤ d) (hW : (st.map fun v => v.category).sum ≤ 8) (hcs : cs ≤ mc ∧ ss ≤ ms) (k : G q d x mc ms oc M' al cs ss (pc + 3) lv (v :: st) M1) : G q d x mc ms oc M' al cs ss pc lv (w5 :: w4 :: w3 :: w2 :: w1 :: st) M := G_callS (as := [w1, w2, w3, w4, w5]) lk h0 hsp g_d rfl hW hcs (Or.inr rfl) k
theorem r_callN0v {y : MI} {d' idx : Nat} {M1 : Mem} (lk : LkN q.1.cls idx y 0) (h0 : dec q pc = .ok (.invokestatic idx, 3)) (hsp : Spec y d' 0 0 [] M none M1) (g_d : d' + 1 ≤ d) (hW : (st.map fun v => v.category).sum ≤ 8) (hcs : cs ≤ mc ∧ ss ≤ ms) (k : G q d x mc ms oc M' al cs ss (pc + 3) lv st M1) : G q d x mc ms oc M' al cs ss pc lv (st) M := G_callN (as := []) lk h0 hsp g_d rfl hW hcs (Or.inr rfl) k
theorem r_callN0i {y : MI} {d' idx : Nat} {M1 : Mem} {v : Value} (lk : LkN q.1.cls idx y 0) (h0 : dec q pc = .ok (.invokestatic idx, 3)) (hsp : Spec y d' 0 0 [] M (some v) M1) (g_d : d' + 1 ≤ d) (hW : (st.map fun v => v.category).sum ≤ 8) (hcs : cs ≤ mc ∧ ss ≤ ms) (k : G q d x mc ms oc M' al cs ss (pc + 3) lv (v :: st) M1) : G q d x mc ms oc M' al cs ss pc lv (st) M := G_callN (as := []) lk h0 hsp g_d rfl hW hcs (Or.inr rfl) k
theorem r_callN1v {y : MI} {d' idx : Nat} {M1 : Mem} {w1 : Value} (lk : LkN q.1.cls idx y 1) (h0 : dec q pc = .ok (.invokestatic idx, 3)) (hsp : Spec y d' 0 0 [w1] M none M1) (g_d : d' + 1 ≤ d) (hW : (st.map fun v => v.category).sum ≤ 8) (hcs : cs ≤ mc ∧ ss ≤ ms) (k : G q d x mc ms oc M' al cs ss (pc + 3) lv st M1) : G q d x mc ms oc M' al cs ss pc lv (w1 :: st) M := G_callN (as := [w1]) lk h0 hsp g_d rfl hW hcs (Or.inr rfl) k
theorem r_callN1i {y : MI} {d' idx : Nat} {M1 : Mem} {w1 : Value} {v : Value} (lk : LkN q.1.cls idx y 1) (h0 : dec q pc = .ok (.invokestatic idx, 3)) (hsp : Spec y d' 0 0 [w1] M (some v) M1) (g_d : d' + 1 ≤ d) (hW : (st.map fun v => v.category).sum ≤ 8) (hcs : cs ≤ mc ∧ ss ≤ ms) (k : G q d x mc ms oc M' al cs ss (pc + 3) lv (v :: st) M1) : G q d x mc ms oc M' al cs ss pc lv (w1 :: st) M := G_callN (as := [w1]) lk h0 hsp g_d rfl hW hcs (Or.inr rfl) k
theorem r_callN2v {y : MI} {d' idx : Nat} {M1 : Mem} {w1 w2 : Value} (lk : LkN q.1.cls idx y 2) (h0 : dec q pc = .ok (.invokestatic idx, 3)) (hsp : Spec y d' 0 0 [w1, w2] M none M1) (g_d : d' + 1 ≤ d) (hW : (st.map fun v => v.category).sum ≤ 8) (hcs : cs ≤ mc ∧ ss ≤ ms) (k : G q d x mc ms oc M' al cs ss (pc + 3) lv st M1) : G q d x mc ms oc M' al cs ss pc lv (w2 :: w1 :: st) M := G_callN (as := [w1, w2]) lk h0 hsp g_d rfl hW hcs (Or.inr rfl) k
theorem r_callN2i {y : MI} {d' idx : Nat} {M1 : Mem} {w1 w2 : Value} {v : Value} (lk : LkN q.1.cls idx y 2) (h0 : dec q pc = .ok (.invokestatic idx, 3)) (hsp : Spec y d' 0 0 [w1, w2] M (some v) M1) (g_d : d' + 1 ≤ d) (hW : (st.map fun v => v.category).sum ≤ 8) (hcs : cs ≤ mc ∧ ss ≤ ms) (k : G q d x mc ms oc M' al cs ss (pc + 3) lv (v :: st) M1) : G q d x mc ms oc M' al cs ss pc lv (w2 :: w1 :: st) M := G_callN (as := [w1, w2]) lk h0 hsp g_d rfl hW hcs (Or.inr rfl) k
theorem r_callN3v {y : MI} {d' idx : Nat} {M1 : Mem} {w1 w2 w3 : Value} (lk : LkN q.1.cls idx y 3) (h0 : dec q pc = .ok (.invokestatic idx, 3)) (hsp : Spec y d' 0 0 [w1, w2, w3] M none M1) (g_d : d' + 1 ≤ d) (hW : (st.map fun v => v.category).sum ≤ 8) (hcs : cs ≤ mc ∧ ss ≤ ms) (k : G q d x mc ms oc M' al cs ss (pc + 3) lv st M1) : G q d x mc ms oc M' al cs ss pc lv (w3 :: w2 :: w1 :: st) M := G_callN (as := [w1, w2, w3]) lk h0 hsp g_d rfl hW hcs (Or.inr rfl) k
theorem r_callN3i {y : MI} {d' idx : Nat} {M1 : Mem} {w1 w2 w3 : Value} {v : Value} (lk : LkN q.1.cls idx y 3) (h0 : dec q pc = .ok (.invokestatic idx, 3)) (hsp : Spec y d' 0 0 [w1, w2, w3] M (some v) M1) (g_d : d' + 1 ≤ d) (hW : (st.map fun v => v.category).sum ≤ 8) (hcs : cs ≤ mc ∧ ss ≤ ms) (k : G q d x mc ms oc M' al cs ss (pc + 3) lv (v :: st) M1) : G q d x mc ms oc M' al cs ss pc lv (w3 :: w2 :: w1 :: st) M := G_callN (as := [w1, w2, w3]) lk h0 hsp g_d rfl hW hcs (Or.inr rfl) k
theorem r_callN4v {y : MI} {d' idx : Nat} {M1 : Mem} {w1 w2 w3 w4 : Value} (lk : LkN q.1.cls idx y 4) (h0 : dec q pc = .ok (.invokestatic idx, 3)) (hsp : Spec y d' 0 0 [w1, w2, w3, w4] M none M1) (g_d : d' + 1 ≤ d) (hW : (st.map fun v => v.category).sum ≤ 8) (hcs : cs ≤ mc ∧ ss ≤ ms) (k : G q d x mc ms oc M' al cs ss (pc + 3) lv st M1) : G q d x mc ms oc M' al cs ss pc lv (w4 :: w3 :: w2 :: w1 :: st) M := G_callN (as := [w1, w2, w3, w4]) lk h0 hsp g_d rfl hW hcs (Or.inr rfl) k
theorem r_callN4i {y : MI} {d' idx : Nat} {M1 : Mem} {w1 w2 w3 w4 : Value} {v : Value} (lk : LkN q.1.cls idx y 4) (h0 : dec q pc = .ok (.invokestatic idx, 3)) (hsp : Spec y d' 0 0 [w1, w2, w3, w4] M (some v) M1) (g_d : d' + 1 ≤ d) (hW : (st.map fun v => v.category).sum ≤ 8) (hcs : cs ≤ mc ∧ ss ≤ ms) (k : G q d x mc ms oc M' al cs ss (pc + 3) lv (v :: st) M1) : G q d x mc ms oc M' al cs ss pc lv (w4 :: w3 :: w2 :: w1 :: st) M := G_callN (as := [w1, w2, w3, w4]) lk h0 hsp g_d rfl hW hcs (Or.inr rfl) k
theorem r_callN5v {y : MI} {d' idx : Nat} {M1 : Mem} {w1 w2 w3 w4 w5 : Value} (lk : LkN q.1.cls idx y 5) (h0 : dec q pc = .ok (.invokestatic idx, 3)) (hsp : Spec y d' 0 0 [w1, w2, w3, w4, w5] M none M1) (g_d : d' + 1 ≤ d) (hW : (st.map fun v => v.category).sum ≤ 8) (hcs : cs ≤ mc ∧ ss ≤ ms) (k : G q d x mc ms oc M' al cs ss (pc + 3) lv st M1) : G q d x mc ms oc M' al cs ss pc lv (w5 :: w4 :: w3 :: w2 :: w1 :: st) M := G_callN (as := [w1, w2, w3, w4, w5]) lk h0 hsp g_d rfl hW hcs (Or.inr rfl) k
theorem r_callN5i {y : MI} {d' idx : Nat} {M1 : Mem} {w1 w2 w3 w4 w5 : Value} {v : Value} (lk : LkN q.1.cls idx y 5) (h0 : dec q pc = .ok (.invokestatic idx, 3)) (hsp : Spec y d' 0 0 [w1, w2, w3, w4, w5] M (some v) M1) (g_d : d' + 1 ≤ d) (hW : (st.map fun v => v.category).sum ≤ 8) (hcs : cs ≤ mc ∧ ss ≤ ms) (k : G q d x mc ms oc M' al cs ss (pc + 3) lv (v :: st) M1) : G q d x mc ms oc M' al cs ss pc lv (w5 :: w4 :: w3 :: w2 :: w1 :: st) M := G_callN (as := [w1, w2, w3, w4, w5]) lk h0 hsp g_d rfl hW hcs (Or.inr rfl) k
theorem r_callV0v {y : MI} {d' idx : Nat} {M1 : Mem} {b ci : Nat} {vs : List Value} (lk : LkV q.1.cls idx y 0 ci) (h0 : dec q pc = .ok (.invokevirtual idx, 3)) (hM : M b = some (cO ci vs)) (hsp : Spec y d' 0 0 (.ref b :: []) M none M1) (g_d : d' + 1 ≤ d) (hW : (st.map fun v => v.category).sum ≤ 8) (hcs : cs ≤ mc ∧ ss ≤ ms) (k : G q d x mc ms oc M' al cs ss (pc + 3) lv st M1) : G q d x mc ms oc M' al cs ss pc lv (.ref b :: st) M := G_callV (as := []) lk h0 hM hsp g_d rfl hW hcs (Or.inr rfl) k
theorem r_callV0i {y : MI} {d' idx : Nat} {M1 : Mem} {v : Value} {b ci : Nat} {vs : List Value} (lk : LkV q.1.cls idx y 0 ci) (h0 : dec q pc = .ok (.invokevirtual idx, 3)) (hM : M b = some (cO ci vs)) (hsp : Spec y d' 0 0 (.ref b :: []) M (some v) M1) (g_d : d' + 1 ≤ d) (hW : (st.map fun v => v.category).sum ≤ 8) (hcs : cs ≤ mc ∧ ss ≤ ms) (k : G q d x mc ms oc M' al cs ss (pc + 3) lv (v :: st) M1) : G q d x mc ms oc M' al cs ss pc lv (.ref b :: st) M := G_callV (as := []) lk h0 hM hsp g_d rfl hW hcs (Or.inr rfl) k
theorem r_callV1v {y : MI} {d' idx : Nat} {M1 : Mem} {w1 : Value} {b ci : Nat} {vs : List Value} (lk : LkV q.1.cls idx y 1 ci) (h0 : dec q pc = .ok (.invokevirtual idx, 3)) (hM : M b = some (cO ci vs)) (hsp : Spec y d' 0 0 (.ref b :: [w1]) M none M1) (g_d : d' + 1 ≤ d) (hW : (st.map fun v => v.category).sum ≤ 8) (hcs : cs ≤ mc ∧ ss ≤ ms) (k : G q d x mc ms oc M' al cs ss (pc + 3) lv st M1) : G q d x mc ms oc M' al cs ss pc lv (w1 :: .ref b :: st) M := G_callV (as := [w1]) lk h0 hM hsp g_d rfl hW hcs (Or.inr rfl) k
theorem r_callV1i {y : MI} {d' idx : Nat} {M1 : Mem} {w1 : Value} {v : Value} {b ci : Nat} {vs : List Value} (lk : LkV q.1.cls idx y 1 ci) (h0 : dec q pc = .ok (.invokevirtual idx, 3)) (hM : M b = some (cO ci vs)) (hsp : Spec y d' 0 0 (.ref b :: [w1]) M (some v) M1) (g_d : d' + 1 ≤ d) (hW : (st.map fun v => v.category).sum ≤ 8) (hcs : cs ≤ mc ∧ ss ≤ ms) (k : G q d x mc ms oc M' al cs ss (pc + 3) lv (v :: st) M1) : G q d x mc ms oc M' al cs ss pc lv (w1 :: .ref b :: st) M := G_callV (as := [w1]) lk h0 hM hsp g_d rfl hW hcs (Or.inr rfl) k
theorem r_callV2v {y : MI} {d' idx : Nat} {M1 : Mem} {w1 w2 : Value} {b ci : Nat} {vs : List Value} (lk : LkV q.1.cls idx y 2 ci) (h0 : dec q pc = .ok (.invokevirtual idx, 3)) (hM : M b = some (cO ci vs)) (hsp : Spec y d' 0 0 (.ref b :: [w1, w2]) M none M1) (g_d : d' + 1 ≤ d) (hW : (st.map fun v => v.category).sum ≤ 8) (hcs : cs ≤ mc ∧ ss ≤ ms) (k : G q d x mc ms oc M' al cs ss (pc + 3) lv st M1) : G q d x mc ms oc M' al cs ss pc lv (w2 :: w1 :: .ref b :: st) M := G_callV (as := [w1, w2]) lk h0 hM hsp g_d rfl hW hcs (Or.inr rfl) k
theorem r_callV2i {y : MI} {d' idx : Nat} {M1 : Mem} {w1 w2 : Value} {v : Value} {b ci : Nat} {vs : List Value} (lk : LkV q.1.cls idx y 2 ci) (h0 : dec q pc = .ok (.invokevirtual idx, 3)) (hM : M b = some (cO ci vs)) (hsp : Spec y d' 0 0 (.ref b :: [w1, w2]) M (some v) M1) (g_d : d' + 1 ≤ d) (hW : (st.map fun v => v.category).sum ≤ 8) (hcs : cs ≤ mc ∧ ss ≤ ms) (k : G q d x mc ms oc M' al cs ss (pc + 3) lv (v :: st) M1) : G q d x mc ms oc M' al cs ss pc lv (w2 :: w1 :: .ref b :: st) M := G_callV (as := [w1, w2]) lk h0 hM hsp g_d rfl hW hcs (Or.inr rfl) k
theorem r_callV3v {y : MI} {d' idx : Nat} {M1 : Mem} {w1 w2 w3 : Value} {b ci : Nat} {vs : List Value} (lk : LkV q.1.cls idx y 3 ci) (h0 : dec q pc = .ok (.invokevirtual idx, 3)) (hM : M b = some (cO ci vs)) (hsp : Spec y d' 0 0 (.ref b :: [w1, w2, w3]) M none M1) (g_d : d' + 1 ≤ d) (hW : (st.map fun v => v.category).sum ≤ 8) (hcs : cs ≤ mc ∧ ss ≤ ms) (k : G q d x mc ms oc M' al cs ss (pc + 3) lv st M1) : G q d x mc ms oc M' al cs ss pc lv (w3 :: w2 :: w1 :: .ref b :: st) M := G_callV (as := [w1, w2, w3]) lk h0 hM hsp g_d rfl hW hcs (Or.inr rfl) k
theorem r_callV3i {y : MI} {d' idx : Nat} {M1 : Mem} {w1 w2 w3 : Value} {v : Value} {b ci : Nat} {vs : List Value} (lk : LkV q.1.cls idx y 3 ci) (h0 : dec q pc = .ok (.invokevirtual idx, 3)) (hM : M b = some (cO ci vs)) (hsp : Spec y d' 0 0 (.ref b :: [w1, w2, w3]) M (some v) M1) (g_d : d' + 1 ≤ d) (hW : (st.map fun v => v.category).sum ≤ 8) (hcs : cs ≤ mc ∧ ss ≤ ms) (k : G q d x mc ms oc M' al cs ss (pc + 3) lv (v :: st) M1) : G q d x mc ms oc M' al cs ss pc lv (w3 :: w2 :: w1 :: .ref b :: st) M := G_callV (as := [w1, w2, w3]) lk h0 hM hsp g_d rfl hW hcs (Or.inr rfl) k
theorem r_callV4v {y : MI} {d' idx : Nat} {M1 : Mem} {w1 w2 w3 w4 : Value} {b ci : Nat} {vs : List Value} (lk : LkV q.1.cls idx y 4 ci) (h0 : dec q pc = .ok (.invokevirtual idx, 3)) (hM : M b = some (cO ci vs)) (hsp : Spec y d' 0 0 (.ref b :: [w1, w2, w3, w4]) M none M1) (g_d : d' + 1 ≤ d) (hW : (st.map fun v => v.category).sum ≤ 8) (hcs : cs ≤ mc ∧ ss ≤ ms) (k : G q d x mc ms oc M' al cs ss (pc + 3) lv st M1) : G q d x mc ms oc M' al cs ss pc lv (w4 :: w3 :: w2 :: w1 :: .ref b :: st) M := G_callV (as := [w1, w2, w3, w4]) lk h0 hM hsp g_d rfl hW hcs (Or.inr rfl) k
theorem r_callV4i {y : MI} {d' idx : Nat} {M1 : Mem} {w1 w2 w3 w4 : Value} {v : Value} {b ci : Nat} {vs : List Value} (lk : LkV q.1.cls idx y 4 ci) (h0 : dec q pc = .ok (.invokevirtual idx, 3)) (hM : M b = some (cO ci vs)) (hsp : Spec y d' 0 0 (.ref b :: [w1, w2, w3, w4]) M (some v) M1) (g_d : d' + 1 ≤ d) (hW : (st.map fun v => v.category).sum ≤ 8) (hcs : cs ≤ mc ∧ ss ≤ ms) (k : G q d x mc ms oc M' al cs ss (pc + 3) lv (v :: st) M1) : G q d x mc ms oc M' al cs ss pc lv (w4 :: w3 :: w2 :: w1 :: .ref b :: st) M := G_callV (as := [w1, w2, w3, w4]) lk h0 hM hsp g_d rfl hW hcs (Or.inr rfl) k
theorem r_callV5v {y : MI} {d' idx : Nat} {M1 : Mem} {w1 w2 w3 w4 w5 : Value} {b ci : Nat} {vs : List Value} (lk : LkV q.1.cls idx y 5 ci) (h0 : dec q pc = .ok (.invokevirtual idx, 3)) (hM : M b = some (cO ci vs)) (hsp : Spec y d' 0 0 (.ref b :: [w1, w2, w3, w4, w5]) M none M1) (g_d : d' + 1 ≤ d) (hW : (st.map fun v => v.category).sum ≤ 8) (hcs : cs ≤ mc ∧ ss ≤ ms) (k : G q d x mc ms oc M' al cs ss (pc + 3) lv st M1) : G q d x mc ms oc M' al cs ss pc lv (w5 :: w4 :: w3 :: w2 :: w1 :: .ref b :: st) M := G_callV (as := [w1, w2, w3, w4, w5]) lk h0 hM hsp g_d rfl hW hcs (Or.inr rfl) k
theorem r_callV5i {y : MI} {d' idx : Nat} {M1 : Mem} {w1 w2 w3 w4 w5 : Value} {v : Value} {b ci : Nat} {vs : List Value} (lk : LkV q.1.cls idx y 5 ci) (h0 : dec q pc = .ok (.invokevirtual idx, 3)) (hM : M b = some (cO ci vs)) (hsp : Spec y d' 0 0 (.ref b :: [w1, w2, w3, w4, w5]) M (some v) M1) (g_d : d' + 1 ≤ d) (hW : (st.map fun v => v.category).sum ≤ 8) (hcs : cs ≤ mc ∧ ss ≤ ms) (k : G q d x mc ms oc M' al cs ss (pc + 3) lv (v :: st) M1) : G q d x mc ms oc M' al cs ss pc lv (w5 :: w4 :: w3 :: w2 :: w1 :: .ref b :: st) M := G_callV (as := [w1, w2, w3, w4, w5]) lk h0 hM hsp g_d rfl hW hcs (Or.inr rfl) k
theorem p_plain {x : XM} {mc ms : Nat} {oc : Option Value ⊕ String} {M' : Mem} {p : Program} {l : Launch} {e : Env} {R : Room} {s : State} {m : MethodId} {args : Array Value} {below : List Frame} {meth : Method} {c : Code} {H : Heap} {locs : List Loc} {cs ss : Nat} {Q : State → Prop} {D : va_G} {nz : Nat} {ad : Nat → Nat} {ca : Nat → ClassId} {A : Nat → Prop} {g : JFrame} (bb : Bool) (hxx : x = .inl bb)
    (hmd : pMode x mc ms oc M' R s args below c Q D nz ad ca A) (k : W p l e R s m args below meth c H locs cs ss (MQ below (pQ D nz ad ca A oc M') args s mc ms A) g) : W p l e R s m args below meth c H locs cs ss Q g := by
  subst hxx
  cases bb with
  | false =>
    have hq : Q = _ := hmd
    rw [hq]; exact k
  | true =>
    have hq : Q = _ := hmd.1
    rw [hq]; exact vx_ret k
theorem r_ireturn {v v0 : Int32} (bb : Bool) (hxx : x = .inl bb) {ty : FieldType} (hR : mR q = some ty) (hnar : narrow ty (.int v) = .int v) (h0 : dec q pc = .ok (.ireturn, 1)) (hcs : cs ≤ mc) (hss : ss ≤ ms) (hal0 : al = none ∨ cs = mc) (hoc : oc = .inl (some (.int v0))) (hv : v = v0) (hMM : M = M') : G q d x mc ms oc M' al cs ss pc lv [.int v] M := by
  subst hv
  subst hoc hMM
  intro p l e R s m args below meth c H locs Q D nx nz ad ca A ls C hd hP hS hal hl
  obtain ⟨hx, hb, hml, hr, hown, hts, hK, hE, hA, hJ, hAd, hlk, hst, hRm, hmd⟩ := id C
  have hnz : nz = nx := by
    rcases hal0 with h | h
    · subst h; exact hal
    · cases al with
      | none => exact hal
      | some k0 => have h1 := hal.1; have h2 := hal.2.1; omega
  subst hnz
  refine W.widen hcs hss (p_plain bb hxx hmd ?_)
  exact W.zret hx hb (hr.trans hR) hnar (fun t ht hW => ⟨⟨_, rfl, rfl⟩, hd, by rw [ht]; exact hP, hS.F ht⟩) hS.2.2 h0
theorem r_return (bb : Bool) (hxx : x = .inl bb) (hR : mR q = none) (h0 : dec q pc = .ok (.return_, 1)) (hcs : cs ≤ mc) (hss : ss ≤ ms) (hal0 : al = none ∨ cs = mc) (hoc : oc = .inl none) (hMM : M = M') : G q d x mc ms oc M' al cs ss pc lv [] M := by
  subst hoc hMM
  intro p l e R s m args below meth c H locs Q D nx nz ad ca A ls C hd hP hS hal hl
  obtain ⟨hx, hb, hml, hr, hown, hts, hK, hE, hA, hJ, hAd, hlk, hst, hRm, hmd⟩ := id C
  have hnz : nz = nx := by
    rcases hal0 with h | h
    · subst h; exact hal
    · cases al with
      | none => exact hal
      | some k0 => have h1 := hal.1; have h2 := hal.2.1; omega
  subst hnz
  refine W.widen hcs hss (p_plain bb hxx hmd ?_)
  exact W.vret hx hb (hr.trans hR) (fun t ht hW => ⟨⟨_, rfl, rfl⟩, hd, by rw [ht]; exact hP, hS.F ht⟩) hS.2.2 h0
theorem r_lreturn {v v0 : Int64} (bb : Bool) (hxx : x = .inl bb) (hR : mR q = some .long) (h0 : dec q pc = .ok (.lreturn, 1)) (hcs : cs ≤ mc) (hss : ss ≤ ms) (hal0 : al = none ∨ cs = mc) (hoc : oc = .inl (some (.long v0))) (hv : v = v0) (hMM : M = M') : G q d x mc ms oc M' al cs ss pc lv [.long v] M := by
  subst hv
  subst hoc hMM
  intro p l e R s m args below meth c H locs Q D nx nz ad ca A ls C hd hP hS hal hl
  obtain ⟨hx, hb, hml, hr, hown, hts, hK, hE, hA, hJ, hAd, hlk, hst, hRm, hmd⟩ := id C
  have hnz : nz = nx := by
    rcases hal0 with h | h
    · subst h; exact hal
    · cases al with
      | none => exact hal
      | some k0 => have h1 := hal.1; have h2 := hal.2.1; omega
  subst hnz
  refine W.widen hcs hss (p_plain bb hxx hmd ?_)
  exact W.lret hx hb (hr.trans hR) (fun t ht hW => ⟨⟨_, rfl, rfl⟩, hd, by rw [ht]; exact hP, hS.F ht⟩) hS.2.2 h0
theorem r_areturn {v v0 : Nat} (bb : Bool) (hxx : x = .inl bb) {ty : FieldType} (hR : mR q = some ty) (hrt : (∃ n, ty = .object n) ∨ ∃ t, ty = .array t) (h0 : dec q pc = .ok (.areturn, 1)) (hcs : cs ≤ mc) (hss : ss ≤ ms) (hal0 : al = none ∨ cs = mc) (hoc : oc = .inl (some (.ref v0))) (hv : v = v0) (hMM : M = M') : G q d x mc ms oc M' al cs ss pc lv [.ref v] M := by
  subst hv
  subst hoc hMM
  intro p l e R s m args below meth c H locs Q D nx nz ad ca A ls C hd hP hS hal hl
  obtain ⟨hx, hb, hml, hr, hown, hts, hK, hE, hA, hJ, hAd, hlk, hst, hRm, hmd⟩ := id C
  have hnz : nz = nx := by
    rcases hal0 with h | h
    · subst h; exact hal
    · cases al with
      | none => exact hal
      | some k0 => have h1 := hal.1; have h2 := hal.2.1; omega
  subst hnz
  refine W.widen hcs hss (p_plain bb hxx hmd ?_)
  exact W.aret hx hb (hr.trans hR) hrt (Or.inr ⟨_, rfl⟩) (fun t ht hW => ⟨⟨_, rfl, rfl⟩, hd, by rw [ht]; exact hP, hS.F ht⟩) hS.2.2 h0
end CALLS
