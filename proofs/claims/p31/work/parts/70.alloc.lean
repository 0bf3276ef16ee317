/-! making cells: new, newarray, anewarray, constructors, final fields, rows of references -/
theorem wl_push {nx : Nat} {ad : Nat → Nat} {ca : Nat → ClassId} {M : Mem} {c : PCell} : wl (nx + 1) ad ca (mset M nx c) = wl nx ad ca M ++ [(ad nx, pcC ad ca c)] := by
  unfold wl
  rw [List.range_succ, List.map_append]
  congr 1
  · apply List.map_congr_left
    intro i hi
    have hi := List.mem_range.mp hi
    rw [mset_ne (by omega)]
  · show [(ad nx, pcC ad ca ((mset M nx c nx).getD (.inr (99, []))))] = _
    rw [mset_same]
    rfl
theorem pDom.push {nx : Nat} {M : Mem} {c : PCell} (h : pDom nx M) : pDom (nx + 1) (mset M nx c) := by
  intro j x hj
  by_cases e : j = nx
  · omega
  · rw [mset_ne e] at hj
    have := h _ _ hj
    omega
theorem hp_size {p : Program} {l : Launch} {e : Env} {R : Room} {s : State} {m : MethodId} {args : Array Value} {below : List Frame} {meth : Method} {c : Code} {T : State} {H : Heap} {locs : List Loc} {cs ss k0 mc nx nz : Nat} {ad : Nat → Nat} {ca : Nat → ClassId} {A : Nat → Prop} {D : va_G} {M : Mem}
    (hT : T.heap = H) (X : Stand p l e R s m args below meth c T locs cs ss) (hP : va_P D vwCl (wl nx ad ca M) H) (hS : va_S A s.heap H locs) (hal : alOK (some k0) cs mc nx nz ad s) (h5 : k0 + cs < 500) : H.size = ad (k0 + cs) ∧ s.heap.size ≤ ad (k0 + cs) ∧ pJ (nx + 1) ad ∧ ∃ base, (∀ i, i < 500 → ad i = base + i) ∧ H.size = base + (k0 + cs) := by
  obtain ⟨h1, h2, base, h3, h4⟩ := hal
  have hu := X.heapSize
  rw [hT, h4] at hu
  have e1 := h3 (k0 + cs) h5
  have hlo : base + (k0 + cs) ≤ H.size := by
    by_cases c0 : cs = 0
    · have := hS.1
      rw [h4] at this
      omega
    · have hi : nx - 1 < nx := by omega
      have hw : (wl nx ad ca M)[nx - 1]? = some (ad (nx - 1), pcC ad ca ((M (nx - 1)).getD (.inr (99, [])))) := by simp [wl, List.getElem?_map, List.getElem?_range hi]
      have hlt : ad (nx - 1) < H.size := (hP _ _ hw).lt
      rw [h3 _ (by omega)] at hlt
      omega
  refine ⟨by omega, by omega, ⟨by omega, fun i j hi hj hij => ?_⟩, base, h3, by omega⟩
  rw [h3 i (by omega), h3 j (by omega)] at hij
  omega
section ALLOC
variable {q : MI} {d : Nat} {x : XM} {mc ms : Nat} {oc : TG} {k0 : Nat} {cs ss pc : Nat} {lv : List (Option Value)} {st : List Value} {M : Mem}
theorem r_new {ci idx N : Nat} {C : String} {T : u_T} {fs : List Value} (i : Nat) (hi : k0 + cs = i) (h5 : i < 500) (hcl : vwCl[ci]? = some (C, T, N)) (hk : Cond.classLink q.1.cls idx C ∈ tblG) (hin : Cond.instantiable C N ∈ tblG) (hini : Cond.initialized C ∈ tblG) (hfs : ∀ j, j < N → (parseFieldDescriptor (T j).2.2.1).map defaultValue = some (vp_V fs j)) (hcv : ∀ ad : Nat → Nat, fs.map (cvV ad) = fs) (h0 : dec q pc = .ok (.new idx, 3)) (hcs : cs + 1 ≤ mc) (hss : ss + N ≤ ms)
    (k : G q d x mc ms oc (some k0) (cs + 1) (ss + N) (pc + 3) lv (.ref i :: st) (mset M i (cO ci fs))) : G q d x mc ms oc (some k0) cs ss pc lv st M := by
  intro p l e R s m args below meth c H locs Q D nx nz ad ca A ls C1 hd hP hS hal hl T0 hT X
  obtain ⟨hx, hb, hml, hr, hown, hts, hK, hE, hA, hJ, hAd, hlk, hst, hRm, hmd⟩ := id C1
  obtain ⟨z1, z2, z3, base, z4, z5⟩ := hp_size hT X hP hS hal (by omega)
  have hnx : nx = i := hal.2.1.trans hi
  rw [hi] at z1 z2
  subst hnx
  obtain ⟨i1, i2, ty0, i3⟩ := clIn ci _ _ _ hcl
  have hKn := hK.1 ci _ hcl
  suffices kW0 : W p l e R s m args below meth c H locs cs ss Q (F0 m pc ls (st.map (cvV ad))) from kW0 T0 hT X
  refine W.newcK hx hb hown (hts _ hk) (hts _ hin) (hts _ hini) rfl h0 (by have := hRm.2.2; omega) (by have := hRm.2.2; omega) hKn.2.1 z1 (fun H1 kC hkC e1 e2 o1 => ?_)
  have o2 : ∀ q : Nat, q < H.size → H1[q]? = H[q]? := fun q hq => o1 q (by omega)
  refine k p l e R s m args below meth c H1 locs Q D (nx + 1) nz ad ca A ls ⟨hx, hb, hml, hr, hown, hts, hK, hE, hA, z3, fun j hj => ?_, hlk, hst, hRm, hmd⟩ hd.push ?_ ⟨Nat.le_trans hS.1 (by omega), fun q h1 h2 => (o2 q (Nat.lt_of_lt_of_le h1 hS.1)).trans (hS.2.1 q h1 h2), hS.2.2⟩ ⟨hal.1, by omega, hal.2.2⟩ hl
  · by_cases e : j = nx
    · rw [e]; exact hA _ z2
    · exact hAd j (by omega)
  · rw [wl_push]
    refine (hP.kept (fun k q9 h9 => o2 q9.1 (hP k q9 h9).lt)).app (fun k x9 hx9 => ?_)
    have hz : k < 1 := (List.getElem?_eq_some_iff.mp hx9).1
    rw [show k = 0 by omega] at hx9
    cases hx9
    refine ⟨_, hcl, (u_born ty0 hts i1 hKn hkC e1 i3).to (fun j hj => ?_)⟩
    have h1 := hfs j hj
    rw [i3 j hj] at h1
    show _ = vp_V (fs.map (cvV ad)) j
    rw [hcv]
    exact Option.some.inj h1
theorem r_newarr {atype : ArrayType} {ty : FieldType} {n : Nat} {t0 : Nat} {a0 : vp_A} {pcl : PCell} (i : Nat) (hi : k0 + cs = i) (h5 : i < 500) (hn : n < 100000) (hty : newarray.typeOf atype = ty) (hw : Cond.arrayClass ty ∈ tblG) (htys : ∀ ca : Nat → ClassId, (tysOf ca)[t0]? = some (ca t0, ty)) (hra : ∀ (s : State) (cA : ClassId), va_RA s cA ty → s.vm.findClass ("[" ++ ty.toString) = some cA) (hpc : ∀ (ad : Nat → Nat) (ca : Nat → ClassId), pcC ad ca pcl = .inl (ca t0, a0)) (ha0 : ∀ cA : ClassId, vp_cell cA a0 = arrV cA n (fun _ => defaultValue ty)) (hbt : componentBytes ty ≤ 8) (h0 : dec q pc = .ok (.newarray atype, 2)) (hcs : cs + 1 ≤ mc) (hss : ss + n ≤ ms)
    (k : G q d x mc ms oc (some k0) (cs + 1) (ss + n) (pc + 2) lv (.ref i :: st) (mset M i pcl)) : G q d x mc ms oc (some k0) cs ss pc lv (.int (nI n) :: st) M := by
  intro p l e R s m args below meth c H locs Q D nx nz ad ca A ls C1 hd hP hS hal hl T0 hT X
  obtain ⟨hx, hb, hml, hr, hown, hts, hK, hE, hA, hJ, hAd, hlk, hst, hRm, hmd⟩ := id C1
  obtain ⟨z1, z2, z3, base, z4, z5⟩ := hp_size hT X hP hS hal (by omega)
  have hnx : nx = i := hal.2.1.trans hi
  rw [hi] at z1 z2
  subst hnx
  subst hty
  have hnn : ¬ nI n < 0 := by
    rw [Int32.lt_iff_toInt_lt, nI_toInt (by omega)]
    have : (0 : Int32).toInt = 0 := rfl
    omega
  have hN : (nI n).toNatClampNeg = n := by
    show (nI n).toInt.toNat = n
    rw [nI_toInt (by omega), Int.toNat_natCast]
  suffices kW0 : W p l e R s m args below meth c H locs cs ss Q (F0 m pc ls (.int (nI n) :: st.map (cvV ad))) from kW0 T0 hT X
  refine va_newaK hx hb (hts _ hw) rfl h0 rfl hnn hN (Nat.le_trans (Nat.mul_le_mul (Nat.le_of_lt hn) hbt) (by decide)) (by have := hRm.2.2; omega) (by have := hRm.2.2; omega) z1 (fun H1 cA e1 e2 o1 _ hf => ?_)
  have o2 : ∀ q : Nat, q < H.size → H1[q]? = H[q]? := fun q hq => o1 q (by omega)
  have hca : cA = ca t0 := Option.some.inj (hf.symm.trans (hra s _ (hK.2 t0 _ (htys ca)).2))
  refine k p l e R s m args below meth c H1 locs Q D (nx + 1) nz ad ca A ls ⟨hx, hb, hml, hr, hown, hts, hK, hE, hA, z3, fun j hj => ?_, hlk, hst, hRm, hmd⟩ hd.push ?_ ⟨Nat.le_trans hS.1 (by omega), fun q h1 h2 => (o2 q (Nat.lt_of_lt_of_le h1 hS.1)).trans (hS.2.1 q h1 h2), hS.2.2⟩ ⟨hal.1, by omega, hal.2.2⟩ hl
  · by_cases e : j = nx
    · rw [e]; exact hA _ z2
    · exact hAd j (by omega)
  · rw [wl_push, hpc]
    refine (hP.kept (fun k q9 h9 => o2 q9.1 (hP k q9 h9).lt)).app (fun k x9 hx9 => ?_)
    have hz : k < 1 := (List.getElem?_eq_some_iff.mp hx9).1
    rw [show k = 0 by omega] at hx9
    cases hx9
    show H1[ad nx]? = some (vp_cell (ca t0) a0)
    rw [ha0, ← hca]
    exact e1
theorem r_newI {n : Nat} (i : Nat) (hi : k0 + cs = i) (h5 : i < 500) (hn : n < 100000) (h0 : dec q pc = .ok (.newarray .int, 2)) (hcs : cs + 1 ≤ mc) (hss : ss + n ≤ ms) (k : G q d x mc ms oc (some k0) (cs + 1) (ss + n) (pc + 2) lv (.ref i :: st) (mset M i (cI n (fun _ => 0)))) : G q d x mc ms oc (some k0) cs ss pc lv (.int (nI n) :: st) M :=
  r_newarr (ty := .int) (t0 := 0) (a0 := (n, .inl (fun _ => 0))) i hi h5 hn rfl (tG 113 (by decide +kernel) (by decide +kernel)) (fun _ => rfl) (fun _ _ h => h) (fun _ _ => rfl) (fun _ => rfl) (by decide) h0 hcs hss k
theorem r_newZ {n : Nat} (i : Nat) (hi : k0 + cs = i) (h5 : i < 500) (hn : n < 100000) (h0 : dec q pc = .ok (.newarray .boolean, 2)) (hcs : cs + 1 ≤ mc) (hss : ss + n ≤ ms) (k : G q d x mc ms oc (some k0) (cs + 1) (ss + n) (pc + 2) lv (.ref i :: st) (mset M i (cZ n (fun _ => 0)))) : G q d x mc ms oc (some k0) cs ss pc lv (.int (nI n) :: st) M :=
  r_newarr (ty := .boolean) (t0 := 1) (a0 := (n, .inl (fun _ => 0))) i hi h5 hn rfl (tG 237 (by decide +kernel) (by decide +kernel)) (fun _ => rfl) (fun _ _ h => h) (fun _ _ => rfl) (fun _ => rfl) (by decide) h0 hcs hss k
theorem r_newC {n : Nat} (i : Nat) (hi : k0 + cs = i) (h5 : i < 500) (hn : n < 100000) (h0 : dec q pc = .ok (.newarray .char, 2)) (hcs : cs + 1 ≤ mc) (hss : ss + n ≤ ms) (k : G q d x mc ms oc (some k0) (cs + 1) (ss + n) (pc + 2) lv (.ref i :: st) (mset M i (cC n (fun _ => 0)))) : G q d x mc ms oc (some k0) cs ss pc lv (.int (nI n) :: st) M :=
  r_newarr (ty := .char) (t0 := 2) (a0 := (n, .inl (fun _ => 0))) i hi h5 hn rfl (tG 252 (by decide +kernel) (by decide +kernel)) (fun _ => rfl) (fun _ _ h => h) (fun _ _ => rfl) (fun _ => rfl) (by decide) h0 hcs hss k
theorem r_newS {n idx : Nat} (i : Nat) (hi : k0 + cs = i) (h5 : i < 500) (hn : n < 100000) (hk : Cond.classLink q.1.cls idx "PipPortrait$State" ∈ tblG) (h0 : dec q pc = .ok (.anewarray idx, 3)) (hcs : cs + 1 ≤ mc) (hss : ss + n ≤ ms) (k : G q d x mc ms oc (some k0) (cs + 1) (ss + n) (pc + 3) lv (.ref i :: st) (mset M i (cS n (fun _ => none)))) : G q d x mc ms oc (some k0) cs ss pc lv (.int (nI n) :: st) M := by
  intro p l e R s m args below meth c H locs Q D nx nz ad ca A ls C1 hd hP hS hal hl T0 hT X
  obtain ⟨hx, hb, hml, hr, hown, hts, hK, hE, hA, hJ, hAd, hlk, hst, hRm, hmd⟩ := id C1
  obtain ⟨z1, z2, z3, base, z4, z5⟩ := hp_size hT X hP hS hal (by omega)
  have hnx : nx = i := hal.2.1.trans hi
  rw [hi] at z1 z2
  subst hnx
  have hnn : ¬ nI n < 0 := by
    rw [Int32.lt_iff_toInt_lt, nI_toInt (by omega)]
    have : (0 : Int32).toInt = 0 := rfl
    omega
  have hN : (nI n).toNatClampNeg = n := by
    show (nI n).toInt.toNat = n
    rw [nI_toInt (by omega), Int.toNat_natCast]
  suffices kW0 : W p l e R s m args below meth c H locs cs ss Q (F0 m pc ls (.int (nI n) :: st.map (cvV ad))) from kW0 T0 hT X
  refine W.anew hx hb hown (hts _ hk) (va_AO.use hE.2.2.2.1.2.2.2) rfl h0 rfl hnn (by rw [hN]; omega) (by have := hRm.2.2; omega) (by rw [hN]; have := hRm.2.2; omega) (fun cA kA comp f1 f2 f3 f4 => ?_)
  rw [hN]
  generalize hH1 : H.push ({ cls := cA, slots := Array.replicate n .null, vm := .none } : Cell) = H1
  have y1 : H1.size = H.size + 1 := by rw [← hH1, Array.size_push]
  have e1 : H1[H.size]? = some (arrV cA n (fun _ => .null)) := by rw [← hH1, Array.getElem?_push_size, ← arrV_new]
  have o2 : ∀ q : Nat, q < H.size → H1[q]? = H[q]? := fun q hq => by rw [← hH1, Array.getElem?_push, if_neg (Nat.ne_of_lt hq)]
  have hq9 := (hK.2 4 _ (show (tysOf ca)[4]? = some (ca 4, .object "PipPortrait$State") from rfl)).2
  obtain ⟨kA2, comp2, g1, g2, g3, g4⟩ := hq9
  have hca : cA = ca 4 := Option.some.inj (f1.symm.trans g4)
  have kW := k p l e R s m args below meth c H1 locs Q D (nx + 1) nz ad ca A ls ⟨hx, hb, hml, hr, hown, hts, hK, hE, hA, z3, fun j hj => (by
    by_cases e : j = nx
    · rw [e]; exact hA _ z2
    · exact hAd j (by omega)), hlk, hst, hRm, hmd⟩ hd.push (by
    rw [wl_push]
    refine (hP.kept (fun k q9 h9 => o2 q9.1 (hP k q9 h9).lt)).app (fun k x9 hx9 => ?_)
    have hz : k < 1 := (List.getElem?_eq_some_iff.mp hx9).1
    rw [show k = 0 by omega] at hx9
    cases hx9
    show H1[ad nx]? = some (vp_cell (ca 4) (n, .inr (.inr (.inr (.inr (fun _ => none))))))
    rw [vp_cell_q, ← hca, ← z1]
    exact e1) ⟨Nat.le_trans hS.1 (by omega), fun q h1 h2 => (o2 q (Nat.lt_of_lt_of_le h1 hS.1)).trans (hS.2.1 q h1 h2), hS.2.2⟩ ⟨hal.1, by omega, hal.2.2⟩ hl
  show W p l e R s m args below meth c H1 locs _ _ Q (F0 m (pc + 3) ls (.ref H.size :: st.map (cvV ad)))
  rw [z1]
  exact kW
theorem G_callA {y : MI} {d' n idx mc' ms' k' : Nat} {as rest : List Value} {oc' : TG} {b : Nat} (lk : LkI q.1.cls idx y n ∨ LkIN q.1.cls idx y n) (h0 : dec q pc = .ok (.invokespecial idx, 3)) (hk : k0 + cs = k') (h5 : k' + mc' < 500) (hsp : SpecA y d' mc' ms' k' (.ref b :: as) M oc') (g_d : d' + 1 ≤ d) (hn : as.length = n) (hW : (rest.map fun v => v.category).sum ≤ 8) (hcs : cs + mc' ≤ mc ∧ ss + ms' ≤ ms)
    (k : ∀ (r : Option Value) (M1 : Mem), oc' (.inl r) M1 → G q d x mc ms oc (some k0) (cs + mc') (ss + ms') (pc + 3) lv (r.toList ++ rest) M1) : G q d x mc ms oc (some k0) cs ss pc lv (as.reverse ++ .ref b :: rest) M := by
  intro p l e R s m args below meth c H locs Q D nx nz ad ca A ls C1 hd hP hS hal hl T0 hT X
  obtain ⟨hx, hb, hml, hr, hown, hts, hK, hE, hA, hJ, hAd, hlk, hst, hRm, hmd⟩ := id C1
  obtain ⟨z1, z2, z3, base, z4, z5⟩ := hp_size hT X hP hS hal (by omega)
  have hnx : nx = k' := hal.2.1.trans hk
  rw [hk] at z1 z2 z5
  subst hnx
  have hsub : ∀ a, pAA nx ad (base + nx) a → A a := by
    rw [← z5]; exact p_sub hS hA hAd
  have kk : ∀ (r : Option Value) (M1 : Mem) (H1 : Heap) (locs1 : List Loc), oc' (.inl r) M1 → pDom (nx + mc') M1 → va_P D vwCl (wl (nx + mc') ad ca M1) H1 → va_S A s.heap H1 locs1 → W p l e R s m args below meth c H1 locs1 (cs + mc') (ss + ms') Q (F0 m (pc + 3) ls ((r.map (cvV ad)).toList ++ rest.map (cvV ad))) := by
    intro r M1 H1 locs1 ho1 hd1 hP1 hS1
    have e9 : (r.map (cvV ad)).toList ++ rest.map (cvV ad) = (r.toList ++ rest).map (cvV ad) := by cases r <;> simp
    rw [e9]
    refine k r M1 ho1 p l e R s m args below meth c H1 locs1 Q D (nx + mc') nz ad ca A ls ⟨hx, hb, hml, hr, hown, hts, hK, hE, hA, ⟨?_, fun i j hi hj hij => ?_⟩, fun j hj => ?_, hlk, hst, hRm, hmd⟩ hd1 hP1 hS1 ⟨hal.1, by omega, hal.2.2⟩ hl
    · omega
    · rw [z4 i (by omega), z4 j (by omega)] at hij; omega
    · by_cases e : j < nx
      · exact hAd j e
      · refine hA _ ?_
        have e1 := z4 nx (by omega)
        rw [z4 j (by omega)]
        omega
  have hPr : ∀ U : State, U.heap = H → s.WarmedH U.vm → pPre D nx ad ca (base + nx) (.ref b :: as) M ((.ref b :: as).map (cvV ad)).toArray U := fun U hU hW => ⟨rfl, by rw [hU]; exact z5, hd, hJ, by rw [hU]; exact hP, va_K.moved hW.alike hK, by rw [hU]; exact pE.go hE hS hW hsub⟩
  suffices kW0 : W p l e R s m args below meth c H locs cs ss Q (F0 m pc ls ((as.reverse ++ .ref b :: rest).map (cvV ad))) from kW0 T0 hT X
  rcases lk with ⟨g_l, g_s, g_i, g_c, g_m, g_p, g_x, g_nm, g_r⟩ | ⟨g_l, g_s, g_i, g_c, g_m, g_p, g_x, g_nm, g_r⟩
  · rw [g_r] at g_c
    exact p_call (A1 := pAA nx ad (base + nx)) (D := D) (nz := nx + mc') (ad := ad) (ca := ca) (oc' := oc') (rest := rest.map (cvV ad)) (va_runI (As := as.map (cvV ad)) (b := ad b) (n := n) ⟨hx, hb, hml, hown, hts⟩ (hsp l D base ad ca hst z4 h5) ⟨⟨rfl, rfl, Nat.le_trans g_d hRm.1, by show 8 + (mL y + 11) + 40 * d' ≤ R.locals; have := hRm.2.1; omega, wsU_warm hts (by rw [g_r]; exact g_c), by rw [← g_r]; exact List.mem_cons_self, hts _ g_c, hts _ g_i, g_m, fun sig h => by unfold nPar at g_p; rw [h] at g_p; exact (Option.some.inj g_p).symm, hts _ g_l⟩, g_nm, hts _ g_s⟩ ⟨pPre_blind, hPr⟩ rfl (by rw [List.length_map]; exact hn) (by show ls.size = mL q; exact hl.size) (by show _ = _; rw [List.map_append, List.map_reverse]; rfl) (by show 2 * 0 + _ ≤ 8; rw [cv_sum]; omega) h0 (by have := hRm.2.2; omega)) hS hsub kk
  · rw [g_r] at g_c
    exact p_call (A1 := pAA nx ad (base + nx)) (D := D) (nz := nx + mc') (ad := ad) (ca := ca) (oc' := oc') (rest := rest.map (cvV ad)) (va_runIN (As := as.map (cvV ad)) (b := ad b) (n := n) (host := "PipPortrait") ⟨hx, hb, hml, hown, hts⟩ (hsp l D base ad ca hst z4 h5) ⟨⟨⟨rfl, rfl, Nat.le_trans g_d hRm.1, by show 8 + (mL y + 11) + 40 * d' ≤ R.locals; have := hRm.2.1; omega, wsU_warm hts (by rw [g_r]; exact g_c), by rw [← g_r]; exact List.mem_cons_self⟩, hts _ g_c, hts _ g_i, g_m, fun sig h => by unfold nPar at g_p; rw [h] at g_p; exact (Option.some.inj g_p).symm, va_Nw.use rfl (hE.2.2.2.2.2 _ g_l)⟩, g_nm, hts _ g_s⟩ ⟨pPre_blind, hPr⟩ rfl (by rw [List.length_map]; exact hn) (by show ls.size = mL q; exact hl.size) (by show _ = _; rw [List.map_append, List.map_reverse]; rfl) (by show 2 * 0 + _ ≤ 8; rw [cv_sum]; omega) h0 (by have := hRm.2.2; omega)) hS hsub kk
variable {al : Option Nat}
theorem r_objInit {idx b : Nat} (hl1 : Cond.methodLink q.1.cls idx Lib.objectInit ∈ tblG) (hl2 : Cond.instanceMethod Lib.objectInit ∈ tblG) (hl3 : Cond.code Lib.objectInit ⟨#[0xb1]⟩ 1 none ∈ tblG) (h0 : dec q pc = .ok (.invokespecial idx, 3)) (g_d : 1 ≤ d) (hW : (st.map fun v => v.category).sum ≤ 8) (k : G q d x mc ms oc al cs ss (pc + 3) lv st M) : G q d x mc ms oc al cs ss pc lv (.ref b :: st) M := by
  intro p l e R s m args below meth c H locs Q D nx nz ad ca A ls C hd hP hS hal hl
  obtain ⟨hx, hb, hml, hr, hown, hts, hK, hE, hA, hJ, hAd, hlk, hst, hRm, hmd⟩ := id C
  exact W.objInit hx hb hown (hts _ hl1) (hts _ hl2) (hts _ hl3) rfl (hl.size.trans hml.symm) rfl h0 (by have := hRm.1; omega) (by show 2 * 0 + _ + 12 ≤ R.locals; rw [cv_sum]; have := hRm.2.1; omega) (k p l e R s m args below meth c H locs Q D nx nz ad ca A ls C hd hP hS hal hl)
theorem r_putfRF {idx ci k b : Nat} {ty : FieldType} {vs : List Value} {v : Nat} (fl : FL q.1.cls idx ci k ty true) (hcls : ∃ T N, vwCl[ci]? = some (q.1.cls, T, N)) (h0 : dec q pc = .ok (.putfield idx, 3)) (hM : M b = some (cO ci vs)) (hk : k < vs.length) (hfit : ∀ a, narrow ty (.ref a) = .ref a ∧ fits ty (.ref a) = true) (hini : q.1.name = "<init>") (kk : G q d x mc ms oc al cs ss (pc + 3) lv st (mset M b (cO ci (vs.set k (.ref v))))) : G q d x mc ms oc al cs ss pc lv (.ref v :: .ref b :: st) M := by
  intro p l e R s m args below meth c H locs Q D nx nz ad ca A ls C hd hP hS hal hl
  obtain ⟨hx, hb, hml, hr, hown, hts, hK, hE, hA, hJ, hAd, hlk, hst, hRm, hmd⟩ := id C
  obtain ⟨C0, T, N, g1, g2, g3, g4, g5, g6⟩ := fl
  obtain ⟨i1, i2, ty0, i3⟩ := clIn ci _ _ _ g1
  obtain ⟨T9, N9, g9⟩ := hcls
  have hC0 : C0 = q.1.cls := by
    have := Option.some.inj (g1.symm.trans g9)
    exact congrArg (fun z => z.1) this
  refine va_putF (D := D) (cl := vwCl) (ws := wl nx ad ca M) (tys := tysOf ca) (A := A) (C := C0) (T := T) (N := N) (ci := ci) (ref := (T k).1) (fs := vs.map (cvV ad)) (v := cvV ad (.ref v)) (ty := ty) hx hb hts i1 ty0 i3 i2 hown hK hP (wl_D hJ hAd) hS b (wl_at (hd b _ hM) hM) g1 k g2 (hts _ g3) (fun _ h9 => h9) g5 (hr.2 hini) (g6.trans hC0) g4 (hfit _).1 (hfit _).2 (by simpa using hk) h0 (fun H1 locs1 hP1 _ hS1 => ?_)
  refine kk p l e R s m args below meth c H1 locs1 Q D nx nz ad ca A ls C (hd.set hM) ?_ hS1 hal hl
  rw [wl_set]
  have e9 : pcC ad ca (cO ci (vs.set k (.ref v))) = .inr (ci, (vs.map (cvV ad)).set k (cvV ad (.ref v))) := by show Sum.inr (ci, (vs.set k (.ref v)).map (cvV ad)) = _; rw [List.map_set]
  rw [e9]; exact hP1
theorem r_aast {b n y : Nat} {vs : List Value} {f : Nat → Option Nat} {i : Int32} (h0 : dec q pc = .ok (.aastore, 1)) (hM : M b = some (cS n f)) (hy : M y = some (cO 4 vs)) (hi : vp_in i n) (k : G q d x mc ms oc al cs ss (pc + 1) lv st (mset M b (cS n (va_up f i.toNatClampNeg (some y))))) : G q d x mc ms oc al cs ss pc lv (.ref y :: .int i :: .ref b :: st) M := by
  intro p l e R s m args below meth c H locs Q D nx nz ad ca A ls C hd hP hS hal hl
  obtain ⟨hx, hb, hml, hr, hown, hts, hK, hE, hA, hJ, hAd, hlk, hst, hRm, hmd⟩ := id C
  refine va_astq (D := D) (cl := vwCl) (ws := wl nx ad ca M) (tys := tysOf ca) (A := A) (r := (RX5, TX5, 9)) hx hb hK hP (wl_D hJ hAd) hS b 4 y 4 (wl_at (hd b _ hM) hM) rfl (wl_at (hd y _ hy) hy) rfl hi h0 (fun H1 locs1 hP1 _ hS1 => ?_)
  refine k p l e R s m args below meth c H1 locs1 Q D nx nz ad ca A ls C (hd.set hM) ?_ hS1 hal hl
  rw [wl_set]
  have e9 : pcC ad ca (cS n (va_up f i.toNatClampNeg (some y))) = .inl (ca 4, n, .inr (.inr (.inr (.inr (va_up (fun j => (f j).map ad) i.toNatClampNeg (some (ad y))))))) := by
    show (Sum.inl (ca 4, n, .inr (.inr (.inr (.inr (fun j => ((va_up f i.toNatClampNeg (some y)) j).map ad))))) : va_E) = _
    congr 7
    funext j
    unfold va_up
    split <;> rfl
  rw [e9]; exact hP1
theorem G_drop {k1 : Nat} {L : Nat} {xs : Nat → Int32} (hxx : x = .inr (.inl (L, xs))) (k : G q d x mc ms oc none cs ss pc lv st M) : G q d x mc ms oc (some k1) cs ss pc lv st M := by
  intro p l e R s m args below meth c H locs Q D nx nz ad ca A ls C hd hP hS hal hl
  obtain ⟨hx, hb, hml, hr, hown, hts, hK, hE, hA, hJ, hAd, hlk, hst, hRm, hmd⟩ := id C
  subst hxx
  exact k p l e R s m args below meth c H locs Q D nx nx ad ca A ls ⟨hx, hb, hml, hr, hown, hts, hK, hE, hA, hJ, hAd, hlk, hst, hRm, hmd⟩ hd hP hS rfl hl
theorem G_widen {cs' ss' : Nat} (hal0 : al = none) (h1 : cs ≤ cs') (h2 : ss ≤ ss') (k : G q d x mc ms oc al cs' ss' pc lv st M) : G q d x mc ms oc al cs ss pc lv st M := by
  intro p l e R s m args below meth c H locs Q D nx nz ad ca A ls C hd hP hS hal hl
  subst hal0
  exact W.widen h1 h2 (k p l e R s m args below meth c H locs Q D nx nz ad ca A ls C hd hP hS hal hl)
end ALLOC
