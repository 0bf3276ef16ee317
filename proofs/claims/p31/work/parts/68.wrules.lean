/-! methods with handlers: their rules, and the calls of them -/
theorem lvOK.st0 {ad : Nat → Nat} {n i : Nat} {lv : List (Option Value)} {ls ls' : Array Slot} {v0 : Value} (h : lvOK ad n lv ls) (hi : i < n) (hp : ∀ j, j + 1 = i → nc (lv[j]?.join) = true)
    (h' : lv_has ls' n ((i, v0) :: (lvA ad lv).filter (fun q => !(q.1 == i) && !(q.1 + 1 == i && q.2.category == 2)))) : lvOK ad n (lv.set i none) ls' := by
  refine ⟨h'.1, h'.2.1, by simp [h.2.2.1], fun j v hj => ?_⟩
  by_cases e : i = j
  · subst e
    rw [List.getElem?_set_self (by rw [h.2.2.1]; exact hi)] at hj
    cases hj
  · rw [List.getElem?_set_ne e] at hj
    refine h'.2.2 (j, cvV ad v) (List.mem_cons_of_mem _ (List.mem_filter.mpr ⟨lvA_mem hj, ?_⟩))
    by_cases e2 : j + 1 = i
    · have h3 := hp j e2
      rw [hj] at h3
      simp [nc] at h3
      simp [Ne.symm e, cv_cat, h3]
    · simp [Ne.symm e, e2]
def wsW (q : MI) (hh : List (Nat × Nat × Nat × Nat)) : List Cond := Cond.codeWith q.1 (mC q) (mL q) (mR q) hh :: tblG
def SpecW (q : MI) (hh : List (Nat × Nat × Nat × Nat)) (d mc ms : Nat) (as : List Value) (M : Mem) (oc : TG) : Prop :=
  ∀ (l : Launch) (D : va_G) (nx : Nat) (ad : Nat → Nat) (ca : Nat → ClassId) (sz : Nat), l.stackTraces = false → vx_Met l q.1 (wsW q hh) (rmU d mc ms) (pPre D nx ad ca sz as M) (pQ D nx ad ca (pAA nx ad sz) oc) (fun _ _ _ => False) mc ms (pAA nx ad sz)
theorem SpecW_of {q : MI} {hh : List (Nat × Nat × Nat × Nat)} {d mc ms : Nat} {as : List Value} {M : Mem} {oc : TG} (lv : List (Option Value)) (hpl : plainName q.1.cls = true) (hn : (lvI as).length ≤ mL q) (hlv : lvI as ++ List.replicate (mL q - (lvI as).length) none = lv)
    (k : G q d (.inr (.inr (.inl hh))) mc ms oc none 0 0 0 lv [] M) : SpecW q hh d mc ms as M oc := by
  intro l D nx ad ca sz hl
  refine vx_ofWH (cc := mC q) (maxL := mL q) (ret := mR q) (hh := hh) hpl rfl ?_
  intro p e s m args below meth c s₁ B hml hv
  obtain ⟨rfl, hsz, hd, hJ, hP, hK, hE⟩ := hv
  subst hsz
  have hts := atoms_spec (ws := wsW q hh) B.pre
  have hown : s.vm.findClass q.1.cls = some m.cls := findClass_of_methodNamed B.named
  have htab := vx_table (x := q.1) B (hts _ List.mem_cons_self)
  rw [lg_entry_eq]
  exact k p l e (rmU d mc ms) s m _ below meth c s.heap [] _ D nx nx ad ca (pAA nx ad s.heap.size) _
    ⟨B.exec, B.bytes, hml, ⟨B.returns, fun h => (name_of_methodNamed B.named B.method).1.trans h⟩, hown, fun w h => hts w (List.mem_cons_of_mem _ h), hK, hE, pAA_sz, hJ, pAA_ad, B.notSynchronized, hl, ⟨Nat.le_refl _, Nat.le_refl _, Nat.le_refl _, Nat.le_refl _⟩, rfl, htab⟩ hd hP va_S.rf rfl (lvOK_entry ad as hn hlv)
theorem p_callX {p : Program} {l : Launch} {e : Env} {R : Room} {s : State} {m : MethodId} {args : Array Value} {below : List Frame} {meth : Method} {c : Code} {H : Heap} {locs : List Loc} {cells slots mc' ms' : Nat} {Q : State → Prop} {pc : Nat} {ls : Array Slot} {st0 rest : List Value} {a : Array Value} {D : va_G} {nz : Nat} {ad : Nat → Nat} {ca : Nat → ClassId} {A A1 : Nat → Prop} {oc' : TG} {XC : String → State → State → Prop}
    (hr : vx_Run p l e R s m args below meth c H locs cells slots mc' ms' (F0 m pc ls st0) rest (pQ D nz ad ca A1 oc' a) XC A1) (hS : va_S A s.heap H locs) (hA : ∀ q, A1 q → A q)
    (kk : ∀ (r : Option Value) (M1 : Mem) (H1 : Heap) (locs1 : List Loc), oc' (.inl r) M1 → pDom nz M1 → va_P D vwCl (wl nz ad ca M1) H1 → va_S A s.heap H1 locs1 → W p l e R s m args below meth c H1 locs1 (cells + mc') (slots + ms') Q (F0 m (pc + 3) ls ((r.map (cvV ad)).toList ++ rest)))
    (kx : ∀ (E : String) (ce : Cell) (q9 : Addr) (st t : State) (H1 : Heap) (locs1 : List Loc), st.heap = H → t.heap = H1 → XC E st t → (∀ hF : va_F A1 st t, va_S A s.heap H1 locs1) → H1[q9]? = some ce → ce.vm = .none → s.vm.findClass E = some ce.cls → vx_W p l e R s m args below meth c H1 locs1 (cells + mc') (slots + ms') Q (F0 m pc ls rest) q9) : W p l e R s m args below meth c H locs cells slots Q (F0 m pc ls st0) := by
  intro T hT X
  rcases hr T hT X with ⟨v, st₀, t, T', L, h0, X', hL, e1, e2, ⟨⟨v0, M1, ho, hv, hd, hP⟩, hz, hk⟩, st⟩ | ⟨q, st₀, t, T', L, E, ce, h0, X', hL, e1, e2, hx, hce, hcv, hcl, st⟩
  · cases hv
    rw [h0] at hz hk
    obtain ⟨t2, a1, b1⟩ := kk v0 M1 T'.heap (locs ++ L) ho hd (by rw [e1]; exact hP)
      ⟨Nat.le_trans hS.1 (by rw [e1]; exact hz), fun q h1 h2 => by rw [e1, hk q (Nat.lt_of_lt_of_le h1 hS.1) (fun z => h2 (hA q z))]; exact hS.2.1 q h1 h2, fun q hq => by
        rcases List.mem_append.mp hq with h | h
        · exact hS.2.2 q h
        · exact hA _ (hL q h)⟩ T' rfl X'
    exact ⟨t2, st t2 a1, b1⟩
  · obtain ⟨t2, a1, b1⟩ := kx E ce q st₀ t T'.heap (locs ++ L) h0 e1.symm hx (fun hF => by
      obtain ⟨hz, hk⟩ := hF
      rw [h0] at hz hk
      exact ⟨Nat.le_trans hS.1 (by rw [e1]; exact hz), fun q h1 h2 => by rw [e1, hk q (Nat.lt_of_lt_of_le h1 hS.1) (fun z => h2 (hA q z))]; exact hS.2.1 q h1 h2, fun q hq => by
        rcases List.mem_append.mp hq with h | h
        · exact hS.2.2 q h
        · exact hA _ (hL q h)⟩) (by rw [e1]; exact hce) hcv hcl T' rfl X'
    exact ⟨t2, st.trans a1, b1⟩
/-- the row of the table that takes E at pc: its handler -/
def CT (own : String) (pc : Nat) (hh : List (Nat × Nat × Nat × Nat)) (E : String) (hpc : Nat) : Prop := ∃ pre r suf, hh = pre ++ r :: suf ∧ r.2.2.1 = hpc ∧ covers ⟨r.1, r.2.1, r.2.2.1, r.2.2.2⟩ pc = true ∧ r.2.2.2 ≠ 0 ∧ Cond.classLink own r.2.2.2 E ∈ tblG ∧ Cond.castable E E ∈ excW ∧ ∀ z ∈ pre, z.2.2.2 ≠ 0 ∧ ∃ nm, Cond.classLink own z.2.2.2 nm ∈ tblG ∧ (E, nm) ∈ ncW
section WRULES
variable {q : MI} {d : Nat} {x : XM} {mc ms : Nat} {oc : TG} {al : Option Nat} {cs ss pc : Nat} {lv : List (Option Value)} {st : List Value} {M : Mem}
theorem p_ireturnW {v : Int32} {hh : List (Nat × Nat × Nat × Nat)} (hxx : x = .inr (.inr (.inl hh))) {ty : FieldType} (hR : mR q = some ty) (hnar : narrow ty (.int v) = .int v) (h0 : dec q pc = .ok (.ireturn, 1)) (hcs : cs ≤ mc) (hss : ss ≤ ms) (hal0 : al = none) (hoc : oc (.inl (some (.int v))) M) : G q d x mc ms oc al cs ss pc lv [.int v] M := by
  intro p l e R s m args below meth c H locs Q D nx nz ad ca A ls C hd hP hS hal hl
  obtain ⟨hx, hb, hml, hr, hown, hts, hK, hE, hA, hJ, hAd, hlk, hst, hRm, hmd⟩ := id C
  subst hal0 hxx
  have hnz : nz = nx := hal
  subst hnz
  have hq : Q = _ := hmd.1
  rw [hq]
  refine W.widen hcs hss (vx_ret ?_)
  exact W.zret hx hb (hr.1.trans hR) hnar (fun t ht hW => ⟨⟨_, M, hoc, rfl, hd, by rw [ht]; exact hP⟩, hS.F ht⟩) hS.2.2 h0
theorem G_callX {y : MI} {d' n idx mc' ms' : Nat} {as rest : List Value} {oc' : TG} {b ci : Nat} {vs : List Value} {hh : List (Nat × Nat × Nat × Nat)} (hxx : x = .inr (.inr (.inl hh))) (hal0 : al = none) (lk : LkV q.1.cls idx y n ci) (h0 : dec q pc = .ok (.invokevirtual idx, 3)) (hM : M b = some (cO ci vs)) (hsp : SpecX y d' mc' ms' (.ref b :: as) M oc') (g_d : d' + 1 ≤ d) (hn : as.length = n) (hW : (rest.map fun v => v.category).sum ≤ 8) (hcs : cs + mc' ≤ mc ∧ ss + ms' ≤ ms)
    (k : ∀ (r : Option Value) (M1 : Mem), oc' (.inl r) M1 → G q d x mc ms oc al (cs + mc') (ss + ms') (pc + 3) lv (r.toList ++ rest) M1)
    (kx : ∀ (E : String) (M1 : Mem), oc' (.inr E) M1 → ∃ hpc i nxt, CT q.1.cls pc hh E hpc ∧ ((∃ k : Fin 4, dec q hpc = .ok (.astore_n k, 1) ∧ (k : Nat) = i ∧ nxt = hpc + 1) ∨ (dec q hpc = .ok (.astore i, 2) ∧ nxt = hpc + 2)) ∧ i < mL q ∧ (∀ j, j + 1 = i → nc (lv[j]?.join) = true) ∧ G q d x mc ms oc al (cs + mc') (ss + ms') nxt (lv.set i none) [] M1) : G q d x mc ms oc al cs ss pc lv (as.reverse ++ .ref b :: rest) M := by
  intro p l e R s m args below meth c H locs Q D nx nz ad ca A ls C hd hP hS hal hl
  obtain ⟨hx, hb, hml, hr, hown, hts, hK, hE, hA, hJ, hAd, hlk, hst, hRm, hmd⟩ := id C
  obtain ⟨g_l, g_s, g_se, g_i, g_c, g_m, g_p, g_x, T9, N9, g_v⟩ := lk
  subst hal0 hxx
  have htab : c.exceptionTable.toList = tableOf hh := hmd.2
  refine p_callX (A1 := pAA nx ad H.size) (D := D) (nz := nx) (ad := ad) (ca := ca) (oc' := oc') (rest := rest.map (cvV ad)) (vx_runV (As := as.map (cvV ad)) (b := ad b) (C := y.1.cls) (n := n) ⟨hx, hb, hml, hown, hts⟩ (hsp l D nx ad ca H.size hst) ⟨⟨rfl, rfl, Nat.le_trans g_d hRm.1, by show 8 + (mL y + 11) + 40 * d' ≤ R.locals; have := hRm.2.1; omega, wsU_warm hts g_c, List.mem_cons_self, hts _ g_c, hts _ g_i, g_m, fun sig h => by unfold nPar at g_p; rw [h] at g_p; exact (Option.some.inj g_p).symm, hts _ g_l⟩, hts _ g_s, hts _ g_se⟩ ⟨pPre_blind, va_recv (q := (y.1.cls, T9, N9)) hK hP g_v (wl_at (hd b _ hM) hM), fun U hU hW => ⟨rfl, by rw [hU], hd, hJ, by rw [hU]; exact hP, va_K.moved hW.alike hK, by rw [hU]; exact pE.go hE hS hW (p_sub hS hA hAd)⟩⟩ rfl (by rw [List.length_map]; exact hn) (by show ls.size = mL q; exact hl.size) (by show _ = _; rw [List.map_append, List.map_reverse]; rfl) (by show 2 * 0 + _ ≤ 8; rw [cv_sum]; omega) h0 (by have := hRm.2.2; omega)) hS (p_sub hS hA hAd) (fun r M1 H1 locs1 ho1 hd1 hP1 hS1 => ?_) (fun E ce q9 st9 t9 H1 locs1 e1 e2 hX1 hS1 hce hcv hcl => ?_)
  · have e9 : (r.map (cvV ad)).toList ++ rest.map (cvV ad) = (r.toList ++ rest).map (cvV ad) := by cases r <;> simp
    rw [e9]
    exact k r M1 ho1 p l e R s m args below meth c H1 locs1 Q D nx nz ad ca A ls C hd1 hP1 hS1 hal hl
  · obtain ⟨⟨M1, ho1, hd1, hP1⟩, hF1⟩ := hX1
    rw [e2] at hP1
    obtain ⟨hpc, i, nxt, ⟨pre, r, suf, c1, c2, c3, c4, c5, c6, c7⟩, hst9, hi, hnc, kG⟩ := kx E M1 ho1
    have kW := fun ls' hl' => kG p l e R s m args below meth c H1 locs1 Q D nx nz ad ca A ls' C hd1 hP1 (hS1 hF1) hal hl'
    refine vx_catch (own := q.1.cls) (name := E) hown (pre.map fun q => ⟨q.1, q.2.1, q.2.2.1, q.2.2.2⟩) ⟨r.1, r.2.1, r.2.2.1, r.2.2.2⟩ (suf.map fun q => ⟨q.1, q.2.1, q.2.2.1, q.2.2.2⟩) (by rw [htab, c1]; unfold tableOf; rw [List.map_append]; rfl) (fun z hz => ?_) c3 c4 (hts _ c5) (va_Nw.use rfl (hE.2.2.2.1.2.1 _ c6)) hce hcv hcl ?_
    · obtain ⟨z0, hz0, rfl⟩ := List.mem_map.mp hz
      obtain ⟨d1, nm9, d2, d3⟩ := c7 z0 hz0
      exact Or.inr ⟨d1, nm9, hts _ d2, hE.2.2.2.1.2.2.1 _ d3⟩
    · show W p l e R s m args below meth c H1 locs1 _ _ Q (F0 m r.2.2.1 ls [.ref q9])
      rw [c2]
      rcases hst9 with ⟨k4, a1, a2, a3⟩ | ⟨a1, a3⟩
      · rw [a3] at kW
        exact lv_astore_n hx hb a1 a2 hl.has hi rfl (fun ls' hl' => kW ls' (lvOK.st0 hl hi hnc hl'))
      · rw [a3] at kW
        exact lv_astore hx hb a1 hl.has hi rfl (fun ls' hl' => kW ls' (lvOK.st0 hl hi hnc hl'))
def LkSW (own : String) (idx : Nat) (y : MI) (hh : List (Nat × Nat × Nat × Nat)) (n : Nat) : Prop := Cond.methodLink own idx y.1 ∈ tblG ∧ Cond.static y.1 ∈ tblG ∧ Cond.initialized y.1.cls ∈ tblG ∧ Cond.codeWith y.1 (mC y) (mL y) (mR y) hh ∈ tblG ∧ nMH y.1 ∧ nPar y.1 = some n ∧ mL y ≤ 21
theorem wsW_warm {y : MI} {hh : List (Nat × Nat × Nat × Nat)} {args : Array Value} {s : State} (hts : ∀ w ∈ tblG, w.before args s = true) (hc : Cond.codeWith y.1 (mC y) (mL y) (mR y) hh ∈ tblG) : ∀ w ∈ wsW y hh, ∀ (a' : Array Value) (U : State), s.WarmedH U.vm → w.before a' U = true :=
  pay_in hts (fun w hw => by
    rcases List.mem_cons.mp hw with h | h
    · rw [h]; exact ⟨hc, tblG_good _ hc⟩
    · exact ⟨h, tblG_good w h⟩)
theorem G_callSW {y : MI} {d' n idx mc' ms' : Nat} {as rest : List Value} {oc' : TG} {hh : List (Nat × Nat × Nat × Nat)} (hal0 : al = none) (lk : LkSW q.1.cls idx y hh n) (h0 : dec q pc = .ok (.invokestatic idx, 3)) (hsp : SpecW y hh d' mc' ms' as M oc') (g_d : d' + 1 ≤ d) (hn : as.length = n) (hW : (rest.map fun v => v.category).sum ≤ 8) (hcs : cs + mc' ≤ mc ∧ ss + ms' ≤ ms)
    (k : ∀ (r : Option Value) (M1 : Mem), oc' (.inl r) M1 → G q d x mc ms oc al (cs + mc') (ss + ms') (pc + 3) lv (r.toList ++ rest) M1) : G q d x mc ms oc al cs ss pc lv (as.reverse ++ rest) M := by
  intro p l e R s m args below meth c H locs Q D nx nz ad ca A ls C hd hP hS hal hl
  obtain ⟨hx, hb, hml, hr, hown, hts, hK, hE, hA, hJ, hAd, hlk, hst, hRm, hmd⟩ := id C
  obtain ⟨g_l, g_s, g_i, g_c, g_m, g_p, g_x⟩ := lk
  subst hal0
  refine p_callX (A1 := pAA nx ad H.size) (D := D) (nz := nx) (ad := ad) (ca := ca) (oc' := oc') (rest := rest.map (cvV ad)) (vx_runSX (hh := hh) (As := as.map (cvV ad)) (n := n) ⟨hx, hb, hml, hown, hts⟩ (hsp l D nx ad ca H.size hst) ⟨⟨rfl, rfl, Nat.le_trans g_d hRm.1, by show 8 + (mL y + 11) + 40 * d' ≤ R.locals; have := hRm.2.1; omega, wsW_warm hts g_c, List.mem_cons_self⟩, hts _ g_c, hts _ g_i, g_m, fun sig h => by unfold nPar at g_p; rw [h] at g_p; exact (Option.some.inj g_p).symm, hts _ g_l, hts _ g_s⟩ ⟨pPre_blind, fun U hU hW => ⟨rfl, by rw [hU], hd, hJ, by rw [hU]; exact hP, va_K.moved hW.alike hK, by rw [hU]; exact pE.go hE hS hW (p_sub hS hA hAd)⟩⟩ rfl (by rw [List.length_map]; exact hn) (by show ls.size = mL q; exact hl.size) (by show _ = _; rw [List.map_append, List.map_reverse]) (by show 2 * 0 + _ ≤ 8; rw [cv_sum]; omega) h0 (by have := hRm.2.2; omega)) hS (p_sub hS hA hAd) (fun r M1 H1 locs1 ho1 hd1 hP1 hS1 => ?_) (fun E ce q9 st9 t9 H1 locs1 e1 e2 hX1 hS1 hce hcv hcl => absurd hX1 (fun h => h))
  have e9 : (r.map (cvV ad)).toList ++ rest.map (cvV ad) = (r.toList ++ rest).map (cvV ad) := by cases r <;> simp
  rw [e9]
  exact k r M1 ho1 p l e R s m args below meth c H1 locs1 Q D nx nz ad ca A ls C hd1 hP1 hS1 hal hl
end WRULES
