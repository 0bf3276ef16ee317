/-! two portraits: what holds of cells 0..163 holds of cells 164..327 by a change of the names of cells -/
def sg (i : Nat) : Nat := if i < 164 then i + 164 else if i < 328 then i - 164 else i
theorem sg_sg (i : Nat) : sg (sg i) = i := by
  unfold sg
  by_cases h1 : i < 164
  · rw [if_pos h1, if_neg (by omega), if_pos (by omega)]; omega
  · rw [if_neg h1]
    by_cases h2 : i < 328
    · rw [if_pos h2, if_pos (by omega)]; omega
    · rw [if_neg h2, if_neg h1, if_neg h2]
theorem sg_lo {i : Nat} (h : i < 164) : sg i = i + 164 := if_pos h
theorem sg_mid {i : Nat} (h1 : 164 ≤ i) (h2 : i < 328) : sg i = i - 164 := by unfold sg; rw [if_neg (by omega), if_pos h2]
theorem sg_hi {i : Nat} (h : 328 ≤ i) : sg i = i := by unfold sg; rw [if_neg (by omega), if_neg (by omega)]
theorem sg_lt {i n : Nat} (hn : 328 ≤ n) (h : i < n) : sg i < n := by
  unfold sg
  split
  · omega
  · split <;> omega
def rnC (c : PCell) : PCell := match c with
  | .inl (t, n, .inl f) => .inl (t, n, .inl f)
  | .inl (t, n, .inr (.inl f)) => .inl (t, n, .inr (.inl f))
  | .inl (t, n, .inr (.inr (.inl f))) => .inl (t, n, .inr (.inr (.inl f)))
  | .inl (t, n, .inr (.inr (.inr (.inl f)))) => .inl (t, n, .inr (.inr (.inr (.inl f))))
  | .inl (t, n, .inr (.inr (.inr (.inr f)))) => .inl (t, n, .inr (.inr (.inr (.inr (fun j => (f j).map sg)))))
  | .inr (k, vs) => .inr (k, vs.map (cvV sg))
theorem cv_cv (ad : Nat → Nat) (v : Value) : cvV ad (cvV sg v) = cvV (fun i => ad (sg i)) v := by cases v <;> rfl
theorem cv_id (v : Value) : cvV sg (cvV sg v) = v := by
  cases v <;> first | rfl | (show Value.ref _ = _; rw [sg_sg])
theorem pcC_rn (ad : Nat → Nat) (ca : Nat → ClassId) (c : PCell) : pcC ad ca (rnC c) = pcC (fun i => ad (sg i)) ca c := by
  match c with
  | .inl (t, n, .inl f) => rfl
  | .inl (t, n, .inr (.inl f)) => rfl
  | .inl (t, n, .inr (.inr (.inl f))) => rfl
  | .inl (t, n, .inr (.inr (.inr (.inl f)))) => rfl
  | .inl (t, n, .inr (.inr (.inr (.inr f)))) =>
    show Sum.inl (ca t, n, Sum.inr (Sum.inr (Sum.inr (Sum.inr (fun j => ((f j).map sg).map ad))))) = Sum.inl (ca t, n, Sum.inr (Sum.inr (Sum.inr (Sum.inr (fun j => (f j).map (fun i => ad (sg i)))))))
    have e : (fun j => ((f j).map sg).map ad) = fun j => (f j).map (fun i => ad (sg i)) := by
      funext j
      cases f j <;> rfl
    rw [e]
  | .inr (k, vs) =>
    show Sum.inr (k, (vs.map (cvV sg)).map (cvV ad)) = Sum.inr (k, vs.map (cvV (fun i => ad (sg i))))
    rw [List.map_map]
    have e : vs.map (cvV ad ∘ cvV sg) = vs.map (cvV (fun i => ad (sg i))) := List.map_congr_left (fun v _ => cv_cv ad v)
    rw [e]
theorem rn_rn (c : PCell) : rnC (rnC c) = c := by
  match c with
  | .inl (t, n, .inl f) => rfl
  | .inl (t, n, .inr (.inl f)) => rfl
  | .inl (t, n, .inr (.inr (.inl f))) => rfl
  | .inl (t, n, .inr (.inr (.inr (.inl f)))) => rfl
  | .inl (t, n, .inr (.inr (.inr (.inr f)))) =>
    show Sum.inl (t, n, Sum.inr (Sum.inr (Sum.inr (Sum.inr (fun j => ((f j).map sg).map sg))))) = _
    have e : (fun j => ((f j).map sg).map sg) = f := by
      funext j
      cases hj : f j with
      | none => rfl
      | some a => show some (sg (sg a)) = some a; rw [sg_sg]
    rw [e]
  | .inr (k, vs) =>
    show Sum.inr (k, (vs.map (cvV sg)).map (cvV sg)) = _
    rw [List.map_map]
    have e : vs.map (cvV sg ∘ cvV sg) = vs := by
      have h := List.map_congr_left (l := vs) (f := cvV sg ∘ cvV sg) (g := id) (fun v _ => cv_id v)
      rw [h, List.map_id]
    rw [e]
def ren (M : Mem) : Mem := fun i => (M (sg i)).map rnC
theorem omap_rn (o : Option PCell) : (o.map rnC).map rnC = o := by
  cases o with
  | none => rfl
  | some c => show some (rnC (rnC c)) = some c; rw [rn_rn]
theorem ren_ren (M : Mem) : ren (ren M) = M := by
  funext i
  show ((M (sg (sg i))).map rnC).map rnC = M i
  rw [sg_sg, omap_rn]
theorem ren_at (M : Mem) (i : Nat) : ren M i = (M (sg i)).map rnC := rfl
theorem ren_eq {M M' : Mem} {i : Nat} (h : M' (sg i) = M (sg i)) : ren M' i = ren M i := by rw [ren_at, ren_at, h]
theorem ren_eq' {M M' : Mem} {i : Nat} (h : ren M' (sg i) = ren M (sg i)) : M' i = M i := by
  have h1 := congrArg (Option.map rnC) h
  rw [ren_at, ren_at, sg_sg, omap_rn, omap_rn] at h1
  exact h1
theorem wl_rn {nx : Nat} {ad : Nat → Nat} {ca : Nat → ClassId} {M : Mem} (hn : 328 ≤ nx) {k : Nat} (hk : k < nx) : (wl nx (fun i => ad (sg i)) ca M)[k]? = (wl nx ad ca (ren M))[sg k]? := by
  have hk2 := sg_lt hn hk
  simp only [wl, List.getElem?_map, List.getElem?_range hk, List.getElem?_range hk2, Option.map_some]
  rw [ren_at, sg_sg]
  cases M k with
  | none => rfl
  | some c =>
    show some (ad (sg k), pcC (fun i => ad (sg i)) ca c) = some (ad (sg k), pcC ad ca (rnC c))
    rw [pcC_rn]
theorem va_P_rn {D : va_G} {nx : Nat} {ad : Nat → Nat} {ca : Nat → ClassId} {M : Mem} {H : Heap} (hn : 328 ≤ nx) (h : va_P D vwCl (wl nx ad ca (ren M)) H) : va_P D vwCl (wl nx (fun i => ad (sg i)) ca M) H := by
  intro k q hk
  have h1 := (wl_get hk).1
  rw [wl_rn hn h1] at hk
  exact h _ _ hk
theorem va_P_nr {D : va_G} {nx : Nat} {ad : Nat → Nat} {ca : Nat → ClassId} {M : Mem} {H : Heap} (hn : 328 ≤ nx) (h : va_P D vwCl (wl nx (fun i => ad (sg i)) ca M) H) : va_P D vwCl (wl nx ad ca (ren M)) H := by
  intro k q hk
  have h1 := (wl_get hk).1
  have h2 := wl_rn (ad := ad) (ca := ca) (M := M) hn (sg_lt hn h1)
  rw [sg_sg] at h2
  rw [← h2] at hk
  exact h _ _ hk
theorem pDom_rn {nx : Nat} {M : Mem} (hn : 328 ≤ nx) (h : pDom nx (ren M)) : pDom nx M := by
  intro i c hi
  have h1 := h (sg i) (rnC c) (by rw [ren_at, sg_sg, hi]; rfl)
  have h2 := sg_lt hn h1
  rw [sg_sg] at h2
  exact h2
theorem pDom_nr {nx : Nat} {M : Mem} (hn : 328 ≤ nx) (h : pDom nx M) : pDom nx (ren M) := pDom_rn hn (by rw [ren_ren]; exact h)
theorem pJ_rn {nx : Nat} {ad : Nat → Nat} (hn : 328 ≤ nx) (h : pJ nx ad) : pJ nx (fun i => ad (sg i)) := by
  refine ⟨h.1, fun i j hi hj e => ?_⟩
  have h1 := h.2 _ _ (sg_lt hn hi) (sg_lt hn hj) e
  have h2 := congrArg sg h1
  rw [sg_sg, sg_sg] at h2
  exact h2
theorem pAA_rn {nx : Nat} {ad : Nat → Nat} {sz : Nat} (hn : 328 ≤ nx) : pAA nx (fun i => ad (sg i)) sz = pAA nx ad sz := by
  funext q
  apply propext
  constructor
  · rintro (⟨i, hi, e⟩ | h)
    · exact Or.inl ⟨sg i, sg_lt hn hi, e⟩
    · exact Or.inr h
  · rintro (⟨i, hi, e⟩ | h)
    · refine Or.inl ⟨sg i, sg_lt hn hi, ?_⟩
      show q = ad (sg (sg i))
      rw [sg_sg]; exact e
    · exact Or.inr h
theorem pE_rn {ad : Nat → Nat} {A : Nat → Prop} {U : State} {H : Heap} (h : pE ad A U H) : pE (fun i => ad (sg i)) A U H := by
  obtain ⟨h1, h2, h3, h4, ⟨h5, v, h6, h7⟩, h8⟩ := h
  have e2 : ∀ k, (fun i => ad (sg i)) (2000 + k) = ad (2000 + k) := fun k => by show ad (sg (2000 + k)) = _; rw [sg_hi (by omega)]
  have e3 : ∀ k, (fun i => ad (sg i)) (3000 + k) = ad (3000 + k) := fun k => by show ad (sg (3000 + k)) = _; rw [sg_hi (by omega)]
  refine ⟨fun k q hk => ?_, ?_, h3, h4, ⟨h5, v, h6, ?_⟩, h8⟩
  · rw [e2]; exact h1 k q hk
  · rw [show (fun k => (fun i => ad (sg i)) (2000 + k)) = fun k => ad (2000 + k) from funext e2, show (fun k => (fun i => ad (sg i)) (3000 + k)) = fun k => ad (3000 + k) from funext e3]
    exact h2
  · rcases h6 with e | e
    · subst e; exact h7
    · subst e
      show va_Z _ _ _ (.ref (ad (sg 4000))) _ _ _
      rw [sg_hi (by omega)]; exact h7
/-- what is owed, said of the other names -/
def rnT (oc : TG) : TG := fun w Mf => match w with
  | .inl v => ∃ v0, v = v0.map (cvV sg) ∧ oc (.inl v0) (ren Mf)
  | .inr E => oc (.inr E) (ren Mf)
theorem pPre_rn {D : va_G} {nx : Nat} {ad : Nat → Nat} {ca : Nat → ClassId} {sz : Nat} {as : List Value} {M : Mem} {a : Array Value} {U : State} {c : PCell} (hM : M 163 = some c) (h : pPre D nx ad ca sz (as.map (cvV sg)) (ren M) a U) : 328 ≤ nx ∧ pPre D nx (fun i => ad (sg i)) ca sz as M a U := by
  obtain ⟨h0, h1, h2, h3, h4, h5, h6⟩ := h
  have hn : 328 ≤ nx := by
    have := h2 327 (rnC c) (by rw [ren_at, sg_mid (by omega) (by omega), hM]; rfl)
    omega
  refine ⟨hn, ?_, h1, pDom_rn hn h2, pJ_rn hn h3, va_P_rn hn h4, h5, ?_⟩
  · rw [h0, List.map_map]
    have e : as.map (cvV ad ∘ cvV sg) = as.map (cvV (fun i => ad (sg i))) := List.map_congr_left (fun v _ => cv_cv ad v)
    rw [e]
  · rw [pAA_rn hn]; exact pE_rn h6
theorem pQ_rn {D : va_G} {nx : Nat} {ad : Nat → Nat} {ca : Nat → ClassId} {A : Nat → Prop} {oc : TG} {a : Array Value} {st t : State} {r : Outcome} (hn : 328 ≤ nx) (h : pQ D nx (fun i => ad (sg i)) ca A oc a st r t) : pQ D nx ad ca A (rnT oc) a st r t := by
  obtain ⟨⟨v, M', h1, h2, h3, h4⟩, h5⟩ := h
  refine ⟨⟨v.map (cvV sg), ren M', ⟨v, rfl, by rw [ren_ren]; exact h1⟩, ?_, pDom_nr hn h3, va_P_nr hn h4⟩, h5⟩
  rw [h2]
  cases v with
  | none => rfl
  | some v => show Outcome.returned (some _) = Outcome.returned (some _); rw [cv_cv]
theorem SpecP_ren {q : MI} {d mc ms : Nat} {as : List Value} {M : Mem} {oc : TG} {c : PCell} (h : SpecP q d mc ms as M oc) (hM : M 163 = some c) : SpecP q d mc ms (as.map (cvV sg)) (ren M) (rnT oc) := by
  intro l D nx ad ca sz hl p e ha9 hc hk s m args below hf happ hp hk'
  obtain ⟨hn, hp'⟩ := pPre_rn hM hp
  obtain ⟨n, o, h1, h2, h3, h4, h5⟩ := h l D nx (fun i => ad (sg i)) ca sz hl p e ha9 hc hk s m args below hf happ hp' hk'
  rw [pAA_rn hn] at h4 h5
  exact ⟨n, o, h1, h2, h3, pQ_rn hn h4, h5⟩
theorem SpecW_ren {q : MI} {hh : List (Nat × Nat × Nat × Nat)} {d mc ms : Nat} {as : List Value} {M : Mem} {oc : TG} {c : PCell} (h : SpecW q hh d mc ms as M oc) (hM : M 163 = some c) : SpecW q hh d mc ms (as.map (cvV sg)) (ren M) (rnT oc) := by
  intro l D nx ad ca sz hl p e ha9 hc hk s m args below hf happ hp hk'
  obtain ⟨hn, hp'⟩ := pPre_rn hM hp
  obtain ⟨n, o, h1, h2, h3, h4⟩ := h l D nx (fun i => ad (sg i)) ca sz hl p e ha9 hc hk s m args below hf happ hp' hk'
  rw [pAA_rn hn] at h4
  refine ⟨n, o, h1, h2, h3, ?_⟩
  rcases h4 with ⟨h4, h5⟩ | ⟨q9, h4, h5⟩
  · exact Or.inl ⟨pQ_rn hn h4, h5⟩
  · exact Or.inr ⟨q9, h4, h5⟩
theorem SpecW_mono {q : MI} {hh : List (Nat × Nat × Nat × Nat)} {d mc ms : Nat} {as : List Value} {M : Mem} {oc oc' : TG} (h : SpecW q hh d mc ms as M oc) (hq : ∀ v M', oc (.inl v) M' → oc' (.inl v) M') : SpecW q hh d mc ms as M oc' := by
  intro l D nx ad ca sz hl p e ha9 hc hk s m args below hf happ hp hk'
  obtain ⟨n, o, h1, h2, h3, h4⟩ := h l D nx ad ca sz hl p e ha9 hc hk s m args below hf happ hp hk'
  refine ⟨n, o, h1, h2, h3, ?_⟩
  rcases h4 with ⟨⟨⟨v, M', e1, e2, e3, e4⟩, e5⟩, e6⟩ | h5
  · exact Or.inl ⟨⟨⟨v, M', hq _ _ e1, e2, e3, e4⟩, e5⟩, e6⟩
  · exact Or.inr h5
theorem SpecP_mono' {q : MI} {d mc ms : Nat} {as : List Value} {M : Mem} {oc oc' : TG} (h : SpecP q d mc ms as M oc) (hq : ∀ v M', oc (.inl v) M' → oc' (.inl v) M') : SpecP q d mc ms as M oc' := by
  intro l D nx ad ca sz hl p e ha9 hc hk s m args below hf happ hp hk'
  obtain ⟨n, o, h1, h2, h3, ⟨⟨v, M', e1, e2, e3, e4⟩, e5⟩, e6⟩ := h l D nx ad ca sz hl p e ha9 hc hk s m args below hf happ hp hk'
  exact ⟨n, o, h1, h2, h3, ⟨⟨v, M', hq _ _ e1, e2, e3, e4⟩, e5⟩, e6⟩
/-! the two portraits of the law, false at 0 and true at 164 -/
def rb (b : Bool) : Nat := if b then 164 else 0
def TW (M : Mem) (W : Bool → WS) : Prop := FACE M (W false) ∧ FACE (ren M) (W true)
def upW (W : Bool → WS) (b : Bool) (w' : WS) : Bool → WS := fun c => if c = b then w' else W c
theorem upW_self (W : Bool → WS) (b : Bool) : upW W b (W b) = W := by
  funext c
  unfold upW
  split
  · rename_i h; rw [h]
  · rfl
theorem upW_same (W : Bool → WS) (b : Bool) (w' : WS) : upW W b w' b = w' := if_pos rfl
def tQ (b : Bool) (M : Mem) (W : Bool → WS) (v : Int32) (w' : WS) : TG := tP (some (.int v)) (fun Mf => TW Mf (upW W b w') ∧ ∀ i, 328 ≤ i → Mf i = M i)
theorem FACE.row {M : Mem} {w : WS} (h : FACE M w) : ∃ c, M 163 = some c := by
  obtain ⟨-, -, g, -, h4, -⟩ := h.2.2.2.2.2
  exact ⟨_, h4⟩
theorem FACE.obj {M : Mem} {w : WS} (h : FACE M w) : M 0 = some (cO 6 [.ref 1, .ref 23, .ref 45, .ref 145, .ref 162]) := h.1
theorem TW.obj {M : Mem} {W : Bool → WS} (h : TW M W) (b : Bool) : M (rb b) = some (cO 6 [.ref (rb b + 1), .ref (rb b + 23), .ref (rb b + 45), .ref (rb b + 145), .ref (rb b + 162)]) := by
  cases b with
  | false => exact h.1.1
  | true =>
    have h1 : ren M 0 = some (cO 6 [.ref 1, .ref 23, .ref 45, .ref 145, .ref 162]) := h.2.1
    have h2 := congrArg (Option.map rnC) h1
    rw [ren_at, omap_rn, sg_lo (by omega)] at h2
    exact h2
theorem tV_up {b : Bool} {M Mf : Mem} {W : Bool → WS} {w' : WS} {v : Int32} (hT : TW M W) : (b = false → FACE Mf w' → (∀ i, 164 ≤ i → Mf i = M i) → TW Mf (upW W b w') ∧ ∀ i, 328 ≤ i → Mf i = M i) ∧ (b = true → FACE (ren Mf) w' → (∀ i, 164 ≤ i → ren Mf i = ren M i) → TW Mf (upW W b w') ∧ ∀ i, 328 ≤ i → Mf i = M i) := by
  refine ⟨fun hb h1 h2 => ?_, fun hb h1 h2 => ?_⟩
  · subst hb
    refine ⟨⟨h1, ?_⟩, fun i hi => h2 i (by omega)⟩
    show FACE (ren Mf) (W true)
    exact hT.2.ext (fun i hi => ren_eq (h2 _ (by rw [sg_lo hi]; omega)))
  · subst hb
    refine ⟨⟨?_, h1⟩, fun i hi => ren_eq' (h2 _ (by rw [sg_hi hi]; omega))⟩
    show FACE Mf (W false)
    exact hT.1.ext (fun i hi => ren_eq' (h2 _ (by rw [sg_lo hi]; omega)))
theorem liftP {q : MI} {d mc ms : Nat} {as : List Value} {w : WS} {v : Int32} {w' : WS} (h : ∀ M, FACE M w → SpecP q d mc ms (.ref 0 :: as) M (tV M v w')) (has : as.map (cvV sg) = as) (b : Bool) {M : Mem} {W : Bool → WS} (hT : TW M W) (hw : W b = w) : SpecP q d mc ms (.ref (rb b) :: as) M (tQ b M W v w') := by
  cases b with
  | false =>
    refine SpecP_mono' (h M (by rw [← hw]; exact hT.1)) (fun v9 Mf h9 => ?_)
    obtain ⟨e, h1, h2⟩ := h9
    exact ⟨e, (tV_up (b := false) (v := v) hT).1 rfl h1 h2⟩
  | true =>
    have hF : FACE (ren M) w := by rw [← hw]; exact hT.2
    obtain ⟨c, hc⟩ := hF.row
    have h1 := SpecP_ren (h (ren M) hF) hc
    rw [ren_ren, List.map_cons, has] at h1
    refine SpecP_mono' h1 (fun v9 Mf h9 => ?_)
    obtain ⟨v0, e0, e, h1, h2⟩ := h9
    cases e
    exact ⟨congrArg Sum.inl e0, (tV_up (b := true) (v := v) hT).2 rfl h1 h2⟩
theorem liftW {q : MI} {hh : List (Nat × Nat × Nat × Nat)} {d mc ms : Nat} {as : List Value} {w : WS} {v : Int32} {w' : WS} (h : ∀ M, FACE M w → SpecW q hh d mc ms (.ref 0 :: as) M (tV M v w')) (has : as.map (cvV sg) = as) (b : Bool) {M : Mem} {W : Bool → WS} (hT : TW M W) (hw : W b = w) : SpecW q hh d mc ms (.ref (rb b) :: as) M (tQ b M W v w') := by
  cases b with
  | false =>
    refine SpecW_mono (h M (by rw [← hw]; exact hT.1)) (fun v9 Mf h9 => ?_)
    obtain ⟨e, h1, h2⟩ := h9
    exact ⟨e, (tV_up (b := false) (v := v) hT).1 rfl h1 h2⟩
  | true =>
    have hF : FACE (ren M) w := by rw [← hw]; exact hT.2
    obtain ⟨c, hc⟩ := hF.row
    have h1 := SpecW_ren (h (ren M) hF) hc
    rw [ren_ren, List.map_cons, has] at h1
    refine SpecW_mono h1 (fun v9 Mf h9 => ?_)
    obtain ⟨v0, e0, e, h1, h2⟩ := h9
    cases e
    exact ⟨congrArg Sum.inl e0, (tV_up (b := true) (v := v) hT).2 rfl h1 h2⟩
