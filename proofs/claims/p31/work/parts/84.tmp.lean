/-! a row made for the time of one method: its name is 328 -/
def rfL (n : Nat) : List Value → Prop
  | [] => True
  | .ref a :: t => Nat.lt a n ∧ rfL n t
  | _ :: t => rfL n t
theorem rfL.up {n m : Nat} (hnm : n ≤ m) : ∀ {vs : List Value}, rfL n vs → rfL m vs
  | [], _ => True.intro
  | .ref a :: t, h => And.intro (Nat.lt_of_lt_of_le h.1 hnm) (rfL.up hnm h.2)
  | .int _ :: t, h => rfL.up (vs := t) hnm h
  | .long _ :: t, h => rfL.up (vs := t) hnm h
  | .float _ :: t, h => rfL.up (vs := t) hnm h
  | .double _ :: t, h => rfL.up (vs := t) hnm h
  | .retAddr _ :: t, h => rfL.up (vs := t) hnm h
  | .null :: t, h => rfL.up (vs := t) hnm h
theorem rfL_rn : ∀ {vs : List Value}, rfL 164 vs → rfL 328 (vs.map (cvV sg))
  | [], _ => True.intro
  | .ref a :: t, h => by
    have h1 : Nat.lt (sg a) 328 := by rw [sg_lo h.1]; exact Nat.add_lt_add_right h.1 164
    exact And.intro h1 (rfL_rn h.2)
  | .int _ :: t, h => rfL_rn (vs := t) h
  | .long _ :: t, h => rfL_rn (vs := t) h
  | .float _ :: t, h => rfL_rn (vs := t) h
  | .double _ :: t, h => rfL_rn (vs := t) h
  | .retAddr _ :: t, h => rfL_rn (vs := t) h
  | .null :: t, h => rfL_rn (vs := t) h
theorem rfL_ad {ad ad' : Nat → Nat} {n : Nat} (he : ∀ i, i < n → ad' i = ad i) : ∀ {vs : List Value}, rfL n vs → vs.map (cvV ad') = vs.map (cvV ad)
  | [], _ => rfl
  | .ref a :: t, h => by
    show Value.ref (ad' a) :: t.map (cvV ad') = Value.ref (ad a) :: t.map (cvV ad)
    rw [he a h.1, rfL_ad he h.2]
  | .int x :: t, h => by
    show Value.int x :: t.map (cvV ad') = Value.int x :: t.map (cvV ad)
    rw [rfL_ad (vs := t) he h]
  | .long x :: t, h => by
    show Value.long x :: t.map (cvV ad') = Value.long x :: t.map (cvV ad)
    rw [rfL_ad (vs := t) he h]
  | .float x :: t, h => by
    show Value.float x :: t.map (cvV ad') = Value.float x :: t.map (cvV ad)
    rw [rfL_ad (vs := t) he h]
  | .double x :: t, h => by
    show Value.double x :: t.map (cvV ad') = Value.double x :: t.map (cvV ad)
    rw [rfL_ad (vs := t) he h]
  | .retAddr x :: t, h => by
    show Value.retAddr x :: t.map (cvV ad') = Value.retAddr x :: t.map (cvV ad)
    rw [rfL_ad (vs := t) he h]
  | .null :: t, h => by
    show Value.null :: t.map (cvV ad') = Value.null :: t.map (cvV ad)
    rw [rfL_ad (vs := t) he h]
def rfC (n : Nat) (c : PCell) : Prop := match c with
  | .inl (_, _, .inl _) => True
  | .inl (_, _, .inr (.inl _)) => True
  | .inl (_, _, .inr (.inr (.inl _))) => True
  | .inl (_, _, .inr (.inr (.inr (.inl _)))) => True
  | .inl (_, m, .inr (.inr (.inr (.inr f)))) => ∀ j a : Nat, j < m → f j = some a → a < n
  | .inr (_, vs) => rfL n vs
theorem rfC.up {n m : Nat} {c : PCell} (h : rfC n c) (hnm : n ≤ m) : rfC m c := by
  match c, h with
  | .inl (_, _, .inl _), _ => exact True.intro
  | .inl (_, _, .inr (.inl _)), _ => exact True.intro
  | .inl (_, _, .inr (.inr (.inl _))), _ => exact True.intro
  | .inl (_, _, .inr (.inr (.inr (.inl _)))), _ => exact True.intro
  | .inl (_, _, .inr (.inr (.inr (.inr f)))), h => exact fun j a hj hf => Nat.lt_of_lt_of_le (h j a hj hf) hnm
  | .inr (_, vs), h => exact rfL.up hnm h
theorem rfC_rn {c : PCell} (h : rfC 164 c) : rfC 328 (rnC c) := by
  match c, h with
  | .inl (_, _, .inl _), _ => exact True.intro
  | .inl (_, _, .inr (.inl _)), _ => exact True.intro
  | .inl (_, _, .inr (.inr (.inl _))), _ => exact True.intro
  | .inl (_, _, .inr (.inr (.inr (.inl _)))), _ => exact True.intro
  | .inl (_, _, .inr (.inr (.inr (.inr f)))), h =>
    intro j a hj hf
    have hf : (f j).map sg = some a := hf
    cases hb : f j with
    | none => rw [hb] at hf; cases hf
    | some d =>
      rw [hb] at hf
      have h1 := h j d hj hb
      cases hf
      show sg d < 328
      rw [sg_lo h1]; omega
  | .inr (_, vs), h => exact rfL_rn h
theorem arrV_cg {cA : ClassId} {n : Nat} {f g : Nat → Value} (h : ∀ j, j < n → f j = g j) : arrV cA n f = arrV cA n g := by
  unfold arrV
  have e : (fun j : Fin n => f j.val) = fun j : Fin n => g j.val := funext (fun j => h j.val j.isLt)
  rw [e]
theorem va_at_ad {D : va_G} {a : Nat} {c : PCell} {H : Heap} {ad ad' : Nat → Nat} {ca : Nat → ClassId} (hr : rfC 328 c) (he : ∀ i, i < 328 → ad' i = ad i) (h : va_at D vwCl (a, pcC ad ca c) H) : va_at D vwCl (a, pcC ad' ca c) H := by
  match c, hr, h with
  | .inl (_, _, .inl _), _, h => exact h
  | .inl (_, _, .inr (.inl _)), _, h => exact h
  | .inl (_, _, .inr (.inr (.inl _))), _, h => exact h
  | .inl (_, _, .inr (.inr (.inr (.inl _)))), _, h => exact h
  | .inl (t, m, .inr (.inr (.inr (.inr f)))), hr, h =>
    have h : H[a]? = some (arrV (ca t) m (fun j => va_rf ((f j).map ad))) := h
    show H[a]? = some (arrV (ca t) m (fun j => va_rf ((f j).map ad')))
    rw [h, arrV_cg (f := fun j => va_rf ((f j).map ad)) (g := fun j => va_rf ((f j).map ad')) (fun j hj => by
      show va_rf ((f j).map ad) = va_rf ((f j).map ad')
      cases hb : f j with
      | none => rfl
      | some d => show va_rf (some (ad d)) = va_rf (some (ad' d)); rw [he d (hr j d hj hb)])]
  | .inr (k, vs), hr, h =>
    have e : vs.map (cvV ad') = vs.map (cvV ad) := rfL_ad he hr
    have h : va_at D vwCl (a, .inr (k, vs.map (cvV ad))) H := h
    show va_at D vwCl (a, .inr (k, vs.map (cvV ad'))) H
    rw [e]; exact h
theorem bcs_rf {b n : Nat} {S : BS} (hb : b + 22 ≤ n) : ∀ c ∈ bcs b S, rfC n c := by
  intro c hc
  simp only [bcs, List.mem_cons, List.not_mem_nil, or_false] at hc
  rcases hc with h | h | h | h | h | h | h | h | h | h | h | h | h | h | h | h | h | h | h | h | h | h <;> subst h <;> first | exact True.intro | (repeat (refine And.intro (show Nat.lt _ _ from (by show (_ : Nat) < (_ : Nat); omega)) ?_)) <;> exact True.intro
theorem scs_rf {a n : Nat} {T : SS} (hb : a + 7 ≤ n) : ∀ c ∈ scs a T, rfC n c := by
  intro c hc
  simp only [scs, List.mem_cons, List.not_mem_nil, or_false] at hc
  rcases hc with h | h | h | h | h | h | h <;> subst h <;> first | exact True.intro | (repeat (refine And.intro (show Nat.lt _ _ from (by show (_ : Nat) < (_ : Nat); omega)) ?_)) <;> exact True.intro
theorem scs_len3 (a : Nat) (T : SS) : (scs a T).length = 7 := rfl
theorem sAt_rf {M : Mem} {a n i : Nat} {T : SS} (h : sAt M a T) (hn : a + 7 ≤ n) (h1 : a ≤ i) (h2 : i < a + 7) : ∃ c, M i = some c ∧ rfC n c := by
  obtain ⟨c, hc⟩ : ∃ c, (scs a T)[i - a]? = some c := ⟨_, List.getElem?_eq_getElem (by rw [scs_len3]; omega)⟩
  have h3 := h _ _ hc
  rw [show a + (i - a) = i by omega] at h3
  exact ⟨c, h3, scs_rf hn c (List.mem_of_getElem? hc)⟩
theorem bset_rf {M : Mem} {b n i : Nat} {S : BS} (h : bset M b S = M) (hn : b + 22 ≤ n) (h1 : b ≤ i) (h2 : i < b + 22) : ∃ c, M i = some c ∧ rfC n c := by
  obtain ⟨c, hc⟩ : ∃ c, (bcs b S)[i - b]? = some c := ⟨_, List.getElem?_eq_getElem (by rw [bcs_len]; omega)⟩
  have h3 := bget (M := M) hc
  rw [show b + (i - b) = i by omega, h] at h3
  exact ⟨c, h3, bcs_rf hn c (List.mem_of_getElem? hc)⟩
theorem FACE_rf {M : Mem} {w : WS} (h : FACE M w) {i : Nat} (hi : i < 164) : ∃ c, M i = some c ∧ rfC 164 c := by
  obtain ⟨h0, ⟨S, h1, -⟩, ⟨S2, h2⟩, ⟨o, h3, h4⟩, ⟨h5, h6⟩, h7⟩ := h
  by_cases c0 : i = 0
  · subst c0
    exact ⟨_, h0, by repeat (first | exact True.intro | refine And.intro (show Nat.lt _ _ from (by show (_ : Nat) < (_ : Nat); omega)) ?_)⟩
  by_cases c1 : i < 23
  · exact bset_rf h1 (by omega) (by omega) (by omega)
  by_cases c2 : i < 45
  · exact bset_rf h2 (by omega) (by omega) (by omega)
  obtain ⟨m1, m2, m3, f, m4, m5⟩ := h3
  by_cases c3 : i = 45
  · subst c3
    exact ⟨_, m3, by repeat (first | exact True.intro | refine And.intro (show Nat.lt _ _ from (by show (_ : Nat) < (_ : Nat); omega)) ?_)⟩
  by_cases c4 : i = 46
  · subst c4
    refine ⟨_, m4, fun j a hj hf => ?_⟩
    rw [m5 j hj] at hf
    cases hf
    omega
  by_cases c5 : i < 145
  · obtain ⟨T, t1, -⟩ := h4 ((i - 47) / 7) (by omega)
    exact sAt_rf t1 (by omega) (by omega) (by omega)
  obtain ⟨f2, g2, s1, s2, s3, s4, s5⟩ := h5
  by_cases c6 : i = 145
  · subst c6
    exact ⟨_, s1, by repeat (first | exact True.intro | refine And.intro (show Nat.lt _ _ from (by show (_ : Nat) < (_ : Nat); omega)) ?_)⟩
  by_cases c7 : i = 146
  · subst c7
    refine ⟨_, s2, fun j a hj hf => ?_⟩
    rw [s3 j hj] at hf
    cases hf
    omega
  by_cases c8 : i = 147
  · subst c8
    exact ⟨_, s4, True.intro⟩
  by_cases c9 : i < 162
  · obtain ⟨T, t1, -⟩ := h6 ((i - 148) / 7) (by omega)
    exact sAt_rf t1 (by omega) (by omega) (by omega)
  obtain ⟨x1, x2, g, x3, x4, x5⟩ := h7
  by_cases d1 : i = 162
  · subst d1
    exact ⟨_, x3, by repeat (first | exact True.intro | refine And.intro (show Nat.lt _ _ from (by show (_ : Nat) < (_ : Nat); omega)) ?_)⟩
  have d2 : i = 163 := by omega
  subst d2
  exact ⟨_, x4, True.intro⟩
/-- all cells below 328 are there, none else, and none names another -/
def CLO (M : Mem) : Prop := (∀ i, i < 328 → ∃ c, M i = some c ∧ rfC 328 c) ∧ ∀ i, 328 ≤ i → M i = none
theorem TW.clo {M : Mem} {W : Bool → WS} (hT : TW M W) (hN : ∀ i, 328 ≤ i → M i = none) : CLO M := by
  refine ⟨fun i hi => ?_, hN⟩
  by_cases h : i < 164
  · obtain ⟨c, h1, h2⟩ := FACE_rf hT.1 h
    exact ⟨c, h1, h2.up (by omega)⟩
  · obtain ⟨c, h1, h2⟩ := FACE_rf hT.2 (i := i - 164) (by omega)
    have h3 := congrArg (Option.map rnC) h1
    rw [ren_at, omap_rn, sg_lo (by omega), show i - 164 + 164 = i by omega] at h3
    exact ⟨rnC c, h3, rfC_rn h2⟩
def mdel (M : Mem) : Mem := fun i => if i = 328 then none else M i
theorem mdel_ne {M : Mem} {i : Nat} (h : i ≠ 328) : mdel M i = M i := if_neg h
theorem TW.ext {M M' : Mem} {W : Bool → WS} (hT : TW M W) (h : ∀ i, i < 328 → M' i = M i) : TW M' W :=
  ⟨hT.1.ext (fun i hi => h i (by omega)), hT.2.ext (fun i hi => ren_eq (h _ (by rw [sg_lo hi]; omega)))⟩
/-- the refs among locals are below n -/
def lvB (n : Nat) : List (Option Value) → Prop
  | [] => True
  | some (.ref a) :: t => Nat.lt a n ∧ lvB n t
  | _ :: t => lvB n t
theorem lvB_at {n : Nat} : ∀ (lv : List (Option Value)), lvB n lv → ∀ (i : Nat) (a : Nat), lv[i]? = some (some (.ref a)) → a < n
  | [], _, i, a, e => by simp at e
  | o :: t, h, 0, a, e => by
    have e : o = some (.ref a) := by simpa using e
    subst e
    exact h.1
  | o :: t, h, i + 1, a, e => by
    have e : t[i]? = some (some (.ref a)) := by simpa using e
    refine lvB_at t ?_ i a e
    match o, h with
    | some (.ref _), h => exact h.2
    | some (.int _), h => exact h
    | some (.long _), h => exact h
    | some (.float _), h => exact h
    | some (.double _), h => exact h
    | some .null, h => exact h
    | some (.retAddr _), h => exact h
    | none, h => exact h
theorem pE_ad {ad ad' : Nat → Nat} {A : Nat → Prop} {U : State} {H : Heap} (he : ∀ i, 1000 ≤ i → ad' i = ad i) (h : pE ad A U H) : pE ad' A U H := by
  obtain ⟨h1, h2, h3, h4, ⟨h5, v, h6, h7⟩, h8⟩ := h
  have e2 : ∀ k, ad' (2000 + k) = ad (2000 + k) := fun k => he _ (by omega)
  have e3 : ∀ k, ad' (3000 + k) = ad (3000 + k) := fun k => he _ (by omega)
  refine ⟨fun k q hk => ?_, ?_, h3, h4, ⟨h5, v, h6, ?_⟩, h8⟩
  · rw [e2]; exact h1 k q hk
  · rw [show (fun k => ad' (2000 + k)) = fun k => ad (2000 + k) from funext e2, show (fun k => ad' (3000 + k)) = fun k => ad (3000 + k) from funext e3]
    exact h2
  · rcases h6 with e | e
    · subst e; exact h7
    · subst e
      show va_Z _ _ _ (.ref (ad' 4000)) _ _ _
      rw [he _ (by omega)]; exact h7
theorem vwCl_no : vwCl[99]? = none := rfl
section TMP
variable {q : MI} {d mc ms : Nat} {oc oc' : TG} {cs ss pc : Nat} {lv : List (Option Value)} {M : Mem}
theorem G_tmp (hM : CLO M) (hlv : lvB 328 lv) (h0 : dec q pc = .ok (.newarray .int, 2)) (hcs : cs + 1 ≤ mc) (hss : ss + 7 ≤ ms) (hoc : ∀ (v : Option Value) (M' : Mem), oc' (.inl v) M' → (∃ y : Int32, v = some (.int y)) ∧ CLO (mdel M') ∧ oc (.inl v) (mdel M'))
    (k : G q d (.inl false) mc ms oc' none (cs + 1) (ss + 7) (pc + 2) lv [.ref 328] (mset M 328 (cI 7 (fun _ => 0)))) : G q d (.inl false) mc ms oc none cs ss pc lv [.int (nI 7)] M := by
  intro p l e R s m args below meth c H locs Q D nx nz ad ca A ls C1 hd hP hS hal hl
  obtain ⟨hx, hb, hml, hr, hown, hts, hK, hE, hA, hJ, hAd, hlk, hst, hRm, hmd⟩ := id C1
  have hal : nz = nx := hal
  subst hal
  have hmd : Q = MQ below (pQ D nz ad ca A oc) args s mc ms A := hmd
  subst hmd
  have hnx : nz = 328 := by
    obtain ⟨c9, h9, -⟩ := hM.1 327 (by decide)
    have h1 := hd 327 c9 h9
    refine Nat.le_antisymm ?_ (by omega)
    refine Classical.byContradiction (fun h2 => ?_)
    have h3 : 328 < nz := by omega
    have hw : (wl nz ad ca M)[328]? = some (ad 328, .inr (99, [])) := by
      simp only [wl, List.getElem?_map, List.getElem?_range h3, Option.map_some]
      rw [hM.2 328 (by decide)]
      rfl
    obtain ⟨r9, h5, -⟩ := hP _ _ hw
    have h5 : vwCl[99]? = some r9 := h5
    rw [vwCl_no] at h5
    cases h5
  subst hnx
  have hlt : ∀ i, i < 328 → ad i < H.size := fun i hi => by
    obtain ⟨c9, h9, -⟩ := hM.1 i hi
    exact (hP _ _ (wl_at hi h9)).lt
  refine va_newaK (atype := .int) hx hb (hts _ (tG 113 (by decide +kernel) (by decide +kernel))) rfl h0 rfl (n := nI 7) (N := 7) (by decide) (by decide) (by decide) (by have := hRm.2.2; omega) (by have := hRm.2.2; omega) (h := H.size) rfl (fun H1 cA e1 e2 o1 _ hf => ?_)
  have o2 : ∀ q : Nat, q < H.size → H1[q]? = H[q]? := o1
  have hca : cA = ca 0 := Option.some.inj (hf.symm.trans (hK.2 0 (ca 0, .int) rfl).2)
  have he : ∀ i, i < 328 → (if i = 328 then H.size else ad i) = ad i := fun i hi => if_neg (by omega)
  have hP1 : va_P D vwCl (wl 328 ad ca M) H1 := hP.kept (fun k9 q9 h9 => o2 q9.1 (hP k9 q9 h9).lt)
  have kW := k p l e R s m args below meth c H1 locs (MQ below (pQ D 329 (fun i => if i = 328 then H.size else ad i) ca A oc') args s mc ms A) D 329 329 (fun i => if i = 328 then H.size else ad i) ca A ls
    ⟨hx, hb, hml, hr, hown, hts, hK, pE_ad (fun i hi => if_neg (by omega)) hE, hA, ⟨by decide, fun i j hi hj hij => ?_⟩, fun i hi => ?_, hlk, hst, hRm, rfl⟩ hd.push ?_ ⟨Nat.le_trans hS.1 (by omega), fun q h1 h2 => (o2 q (Nat.lt_of_lt_of_le h1 hS.1)).trans (hS.2.1 q h1 h2), hS.2.2⟩ rfl ⟨hl.1, hl.2.1, hl.2.2.1, fun i v hi => ?_⟩
  · intro T hT X
    obtain ⟨t, a1, b1⟩ := kW T hT X
    refine ⟨t, a1, ?_⟩
    obtain ⟨o9, q1, q2, ⟨⟨v, M', q3, q4, q5, q6⟩, q7⟩, q8⟩ := b1
    obtain ⟨⟨y, hy⟩, hc9, ho9⟩ := hoc v M' q3
    refine ⟨o9, q1, q2, ⟨⟨v, mdel M', ho9, ?_, fun i c9 hi => ?_, fun k9 q9 hk9 => ?_⟩, q7⟩, q8⟩
    · rw [q4, hy]; rfl
    · by_cases e9 : i < 328
      · exact e9
      · rw [hc9.2 i (by omega)] at hi; cases hi
    · obtain ⟨g1, g2⟩ := wl_get hk9
      obtain ⟨c9, g3, g4⟩ := hc9.1 k9 g1
      rw [wl_at g1 g3] at hk9
      cases hk9
      have g5 : M' k9 = some c9 := by rw [← g3, mdel_ne (by omega)]
      have g6 := q6 _ _ (wl_at (i := k9) (by omega) g5)
      rw [he k9 g1] at g6
      exact va_at_ad g4 (fun i hi => (he i hi).symm) g6
  · have hij : (if i = 328 then H.size else ad i) = (if j = 328 then H.size else ad j) := hij
    by_cases c1 : i = 328 <;> by_cases c2 : j = 328
    · omega
    · rw [if_pos c1, if_neg c2] at hij; have := hlt j (by omega); omega
    · rw [if_neg c1, if_pos c2] at hij; have := hlt i (by omega); omega
    · rw [if_neg c1, if_neg c2] at hij; exact hJ.2 i j (by omega) (by omega) hij
  · show A (if i = 328 then H.size else ad i)
    by_cases c1 : i = 328
    · rw [if_pos c1]; exact hA _ hS.1
    · rw [if_neg c1]; exact hAd i (by omega)
  · rw [show (329 : Nat) = 328 + 1 from rfl, wl_push]
    refine va_P.app (fun k9 q9 hk9 => ?_) (fun k9 x9 hx9 => ?_)
    · obtain ⟨g1, g2⟩ := wl_get hk9
      obtain ⟨c9, g3, g4⟩ := hM.1 k9 g1
      rw [wl_at g1 g3] at hk9
      cases hk9
      have g6 := hP1 _ _ (wl_at (i := k9) g1 g3)
      rw [he k9 g1]
      exact va_at_ad g4 he g6
    · have hz : k9 < 1 := (List.getElem?_eq_some_iff.mp hx9).1
      rw [show k9 = 0 by omega] at hx9
      cases hx9
      show H1[H.size]? = some (arrV (ca 0) 7 (fun j => .int 0))
      rw [← hca]
      exact e1
  · rw [hl.2.2.2 i v hi]
    cases v with
    | ref a => show some (Slot.val (Value.ref (ad a))) = some (Slot.val (Value.ref (if a = 328 then H.size else ad a))); rw [if_neg (Nat.ne_of_lt (lvB_at lv hlv i a hi))]
    | int x => rfl
    | long x => rfl
    | float x => rfl
    | double x => rfl
    | null => rfl
    | retAddr x => rfl
end TMP
