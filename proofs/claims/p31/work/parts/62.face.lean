/-! the class's memory: the portrait at 0, its board at 1, the trial board at 23, the remembered states at 45, the slots at 145, the text at 162 -/
theorem bset_ext {M M' : Mem} {b : Nat} {S : BS} (h : ∀ i, b ≤ i → i < b + 22 → M' i = M i) (e : bset M b S = M) : bset M' b S = M' := by
  funext i
  by_cases hi : b ≤ i ∧ i < b + 22
  · have h1 : bset M b S i = M i := by rw [e]
    unfold bset at h1 ⊢
    rw [if_pos hi] at h1 ⊢
    rw [h1, h i hi.1 hi.2]
  · unfold bset; rw [if_neg hi]
theorem bset_comm {M : Mem} {a b : Nat} {S S' : BS} (h : a + 22 ≤ b) : bset (bset M a S) b S' = bset (bset M b S') a S := by
  funext i
  by_cases h1 : b ≤ i ∧ i < b + 22
  · have h2 : ¬ (a ≤ i ∧ i < a + 22) := by omega
    unfold bset
    rw [if_pos h1, if_neg h2, if_pos h1]
  · unfold bset
    rw [if_neg h1]
    split
    · rfl
    · rfl
theorem MEM.ext {M M' : Mem} {m o k : Nat} (h : ∀ i, m ≤ i → i < m + 2 → M' i = M i) (e : MEM M m o k) : MEM M' m o k := by
  obtain ⟨h1, h2, h3, f, h4, h5⟩ := e
  exact ⟨h1, h2, (h m (by omega) (by omega)).trans h3, f, (h (m + 1) (by omega) (by omega)).trans h4, h5⟩
theorem sAt.ext {M M' : Mem} {a : Nat} {T : SS} (h : ∀ i, a ≤ i → i < a + 7 → M' i = M i) (e : sAt M a T) : sAt M' a T := by
  intro j c hj
  have h1 : j < 7 := (List.getElem?_eq_some_iff.mp hj).1
  exact (h (a + j) (by omega) (by omega)).trans (e j c hj)
theorem SLT.ext {M M' : Mem} {m : Nat} {u : Nat → Bool} (h : ∀ i, m ≤ i → i < m + 3 → M' i = M i) (e : SLT M m u) : SLT M' m u := by
  obtain ⟨f, g, h1, h2, h3, h4, h5⟩ := e
  exact ⟨f, g, (h m (by omega) (by omega)).trans h1, (h (m + 1) (by omega) (by omega)).trans h2, h3, (h (m + 2) (by omega) (by omega)).trans h4, h5⟩
theorem TXT.ext {M M' : Mem} {t n : Nat} {f : Nat → Nat} (h : ∀ i, t ≤ i → i < t + 2 → M' i = M i) (e : TXT M t n f) : TXT M' t n f := by
  obtain ⟨h1, h2, g, h3, h4, h5⟩ := e
  exact ⟨h1, h2, g, (h t (by omega) (by omega)).trans h3, (h (t + 1) (by omega) (by omega)).trans h4, h5⟩
def FB (M : Mem) (z : ZS) : Prop := ∃ S, bset M 1 S = M ∧ InvB S z
def FTr (M : Mem) : Prop := ∃ S, bset M 23 S = M
def FMm (M : Mem) (h : Nat × (Nat → ZS)) : Prop := ∃ o, MEM M 45 o h.1 ∧ ∀ i, i < 14 → ∃ T, sAt M (45 + 2 + 7 * i) T ∧ ∀ j, j < h.1 → i = (o + j) % 14 → InvS T (h.2 j)
def FSl (M : Mem) (u : Nat → Option ZS) : Prop := SLT M 145 (fun i => (u i).isSome) ∧ ∀ i, i < 2 → ∃ T, sAt M (145 + 3 + 7 * i) T ∧ ∀ y, u i = some y → InvS T y
def FTx (M : Mem) (t : Nat × (Nat → Nat)) : Prop := TXT M 162 t.1 t.2
def F00 (M : Mem) : Prop := M 0 = some (cO 6 [.ref 1, .ref 23, .ref 45, .ref 145, .ref 162])
theorem FB.ext {M M' : Mem} {z : ZS} (h : ∀ i, 1 ≤ i → i < 23 → M' i = M i) (e : FB M z) : FB M' z := by
  obtain ⟨S, h1, h2⟩ := e
  exact ⟨S, bset_ext (fun i a b => h i a (by omega)) h1, h2⟩
theorem FTr.ext {M M' : Mem} (h : ∀ i, 23 ≤ i → i < 45 → M' i = M i) (e : FTr M) : FTr M' := by
  obtain ⟨S, h1⟩ := e
  exact ⟨S, bset_ext (fun i a b => h i a (by omega)) h1⟩
theorem FMm.ext {M M' : Mem} {p : Nat × (Nat → ZS)} (h : ∀ i, 45 ≤ i → i < 145 → M' i = M i) (e : FMm M p) : FMm M' p := by
  obtain ⟨o, h1, h2⟩ := e
  refine ⟨o, h1.ext (fun i a b => h i a (by omega)), fun i hi => ?_⟩
  obtain ⟨T, t1, t2⟩ := h2 i hi
  exact ⟨T, t1.ext (fun j a b => h j (by omega) (by omega)), t2⟩
theorem FSl.ext {M M' : Mem} {u : Nat → Option ZS} (h : ∀ i, 145 ≤ i → i < 162 → M' i = M i) (e : FSl M u) : FSl M' u := by
  obtain ⟨h1, h2⟩ := e
  refine ⟨h1.ext (fun i a b => h i a (by omega)), fun i hi => ?_⟩
  obtain ⟨T, t1, t2⟩ := h2 i hi
  exact ⟨T, t1.ext (fun j a b => h j (by omega) (by omega)), t2⟩
theorem FTx.ext {M M' : Mem} {t : Nat × (Nat → Nat)} (h : ∀ i, 162 ≤ i → i < 164 → M' i = M i) (e : FTx M t) : FTx M' t := TXT.ext h e
def FACE (M : Mem) (w : WS) : Prop := F00 M ∧ FB M w.1 ∧ FTr M ∧ FMm M w.2.1 ∧ FSl M w.2.2.1 ∧ FTx M w.2.2.2
theorem FACE.ext {M M' : Mem} {w : WS} (h : ∀ i, i < 164 → M' i = M i) (e : FACE M w) : FACE M' w := by
  obtain ⟨h0, h1, h2, h3, h4, h5⟩ := e
  exact ⟨(h 0 (by omega)).trans h0, h1.ext (fun i a b => h i (by omega)), h2.ext (fun i a b => h i (by omega)), h3.ext (fun i a b => h i (by omega)), h4.ext (fun i a b => h i (by omega)), h5.ext (fun i a b => h i (by omega))⟩
theorem FACE.board {M : Mem} {w : WS} (e : FACE M w) : ∃ M0 S, M = bset M0 1 S ∧ InvB S (wz w) := by
  obtain ⟨S, h1, h2⟩ := e.2.1
  exact ⟨M, S, h1.symm, h2⟩
theorem FACE.setB {M : Mem} {w : WS} {S S' : BS} {z : ZS} (e : FACE (bset M 1 S) w) (hI : InvB S' z) : FACE (bset M 1 S') (wNow w z) := by
  obtain ⟨h0, h1, h2, h3, h4, h5⟩ := e
  have hq : ∀ i, i < 1 ∨ 23 ≤ i → bset M 1 S' i = bset M 1 S i := fun i hi => by rw [bset_out (by omega), bset_out (by omega)]
  exact ⟨(hq 0 (by omega)).trans h0, ⟨S', bset_bset, hI⟩, h2.ext (fun i a b => hq i (by omega)), h3.ext (fun i a b => hq i (by omega)), h4.ext (fun i a b => hq i (by omega)), h5.ext (fun i a b => hq i (by omega))⟩
theorem FACE.setT {M : Mem} {w : WS} {S' : BS} (e : FACE M w) : FACE (bset M 23 S') w := by
  obtain ⟨h0, h1, h2, h3, h4, h5⟩ := e
  have hq : ∀ i, i < 23 ∨ 45 ≤ i → bset M 23 S' i = M i := fun i hi => bset_out (by omega)
  exact ⟨(hq 0 (by omega)).trans h0, h1.ext (fun i a b => hq i (by omega)), ⟨S', bset_bset⟩, h3.ext (fun i a b => hq i (by omega)), h4.ext (fun i a b => hq i (by omega)), h5.ext (fun i a b => hq i (by omega))⟩
theorem mm_out {M : Mem} {m o k i : Nat} (h : i ≠ m) : mmset M m o k i = M i := mset_ne h
theorem rem_out {M : Mem} {o k i : Nat} {X : SS} (h : i < 45 ∨ 145 ≤ i) : mmset (sset M (rmC 45 o k) X) 45 (rmO o k) (rmK k + 1) i = M i := by
  have h1 : (rmO o k + rmK k) % 14 < 14 := Nat.mod_lt _ (by decide)
  rw [mm_out (by omega), sset_out (by unfold rmC; omega)]
theorem FACE.rem {M : Mem} {w : WS} {o : Nat} {T T' : SS} (e : FACE M w) (ho : MEM M 45 o (wk w)) (hs : ∀ i, i < 14 → ∃ T, sAt M (45 + 2 + 7 * i) T ∧ ∀ j, j < wk w → i = (o + j) % 14 → InvS T (wg w j)) (hT : InvS T (wz w)) (hZ : ZOK (wz w)) : FACE (mmset (sset M (rmC 45 o (wk w)) (cpS T T')) 45 (rmO o (wk w)) (rmK (wk w) + 1)) (wRem w) := by
  obtain ⟨h0, h1, h2, h3, h4, h5⟩ := e
  have hq := fun i hi => rem_out (M := M) (o := o) (k := wk w) (i := i) (X := cpS T T') hi
  refine ⟨(hq 0 (by omega)).trans h0, h1.ext (fun i a b => hq i (by omega)), h2.ext (fun i a b => hq i (by omega)), ?_, h4.ext (fun i a b => hq i (by omega)), h5.ext (fun i a b => hq i (by omega))⟩
  have hk : wk (wRem w) = rmK (wk w) + 1 := by
    rw [wRem_k]; unfold rmK; split <;> omega
  have hm0 : MEM (sset M (rmC 45 o (wk w)) (cpS T T')) 45 o (wk w) := ho.ext (fun i a b => sset_out (by unfold rmC; omega))
  have b1 : rmO o (wk w) < 14 := by unfold rmO; have := ho.1; split <;> omega
  have b2 : rmK (wk w) + 1 ≤ 14 := by unfold rmK; have := ho.2.1; split <;> omega
  have hmod : (rmO o (wk w) + rmK (wk w)) % 14 < 14 := Nat.mod_lt _ (by decide)
  refine ⟨rmO o (wk w), ?_, fun i hi => ?_⟩
  · show MEM _ 45 _ (wk (wRem w))
    rw [hk]; exact hm0.set b1 b2
  · by_cases c : i = (rmO o (wk w) + rmK (wk w)) % 14
    · refine ⟨cpS T T', ?_, fun j hj hij => ?_⟩
      · intro n v hn
        have h7 : n < 7 := (List.getElem?_eq_some_iff.mp hn).1
        rw [mm_out (by omega), show 45 + 2 + 7 * i = rmC 45 o (wk w) by unfold rmC; rw [← c]]
        exact sset_get (a := rmC 45 o (wk w)) (by rw [show rmC 45 o (wk w) = 45 + 2 + 7 * i by unfold rmC; rw [← c]]; exact hn)
      · have hj : j < wk (wRem w) := hj
        rw [hk] at hj
        have ej : j = rmK (wk w) := by omega
        have e2 : wg (wRem w) j = wz w := by
          rw [wRem_g, ej]
          unfold rmK
          split
          · rw [if_pos rfl]
          · rw [if_pos rfl]
        show InvS (cpS T T') (wg (wRem w) j)
        rw [e2]; exact hT.cp hZ
    · obtain ⟨X, x1, x2⟩ := hs i hi
      refine ⟨X, x1.ext (fun n a b => ?_), fun j hj hij => ?_⟩
      · rw [mm_out (by omega), sset_out]
        unfold rmC; omega
      · have hj : j < wk (wRem w) := hj
        rw [hk] at hj
        have ej : j ≠ rmK (wk w) := fun q => c (by rw [hij, q])
        show InvS X (wg (wRem w) j)
        rw [wRem_g]
        have e9 := ho.1
        by_cases c2 : wk w = 14
        · have r1 : rmK (wk w) = 13 := by unfold rmK; rw [if_pos c2]
          have r2 : rmO o (wk w) = (o + 1) % 14 := by unfold rmO; rw [if_pos c2]
          rw [r2] at hij
          rw [if_pos c2, if_neg (by omega)]
          exact x2 (j + 1) (by omega) (by omega)
        · have r1 : rmK (wk w) = wk w := by unfold rmK; rw [if_neg c2]
          have r2 : rmO o (wk w) = o := by unfold rmO; rw [if_neg c2]
          rw [r2] at hij
          rw [if_neg c2, if_neg (by omega)]
          exact x2 j (by omega) hij
theorem FACE.pop {M : Mem} {w : WS} {o k : Nat} (e : FACE M w) (ho : MEM M 45 o (wk w)) (hs : ∀ i, i < 14 → ∃ T, sAt M (45 + 2 + 7 * i) T ∧ ∀ j, j < wk w → i = (o + j) % 14 → InvS T (wg w j)) (hk : k ≤ wk w) : FACE (mmset M 45 o k) (w.1, (k, wg w), w.2.2) := by
  obtain ⟨h0, h1, h2, h3, h4, h5⟩ := e
  have hq : ∀ i, i ≠ 45 → mmset M 45 o k i = M i := fun i hi => mm_out hi
  refine ⟨(hq 0 (by omega)).trans h0, h1.ext (fun i a b => hq i (by omega)), h2.ext (fun i a b => hq i (by omega)), ?_, h4.ext (fun i a b => hq i (by omega)), h5.ext (fun i a b => hq i (by omega))⟩
  refine ⟨o, ho.set ho.1 (Nat.le_trans hk ho.2.1), fun i hi => ?_⟩
  obtain ⟨X, x1, x2⟩ := hs i hi
  exact ⟨X, x1.ext (fun n a b => hq n (by omega)), fun j hj hij => x2 j (Nat.lt_of_lt_of_le hj hk) hij⟩
theorem FACE.clear {M : Mem} {w : WS} {g : Nat → Int32} (e : FACE M w) (hg : ∀ j, j < 2 → g j = bI false) : FACE (mset M (145 + 2) (cZ 2 g)) (w.1, w.2.1, (fun _ => none), w.2.2.2) := by
  obtain ⟨h0, h1, h2, h3, h4, h5⟩ := e
  have hq : ∀ i, i ≠ 147 → mset M (145 + 2) (cZ 2 g) i = M i := fun i hi => mset_ne (by omega)
  refine ⟨(hq 0 (by omega)).trans h0, h1.ext (fun i a b => hq i (by omega)), h2.ext (fun i a b => hq i (by omega)), h3.ext (fun i a b => hq i (by omega)), ?_, h5.ext (fun i a b => hq i (by omega))⟩
  obtain ⟨⟨f, g', s1, s2, s3, s4, s5⟩, s6⟩ := h4
  refine ⟨⟨f, g, (hq _ (by omega)).trans s1, (hq _ (by omega)).trans s2, s3, mset_same, hg⟩, fun i hi => ?_⟩
  obtain ⟨X, x1, x2⟩ := s6 i hi
  exact ⟨X, x1.ext (fun n a b => hq n (by omega)), fun y hy => by cases hy⟩
theorem FACE.keep {M : Mem} {w : WS} {g : Nat → Int32} {T T' : SS} {i : Nat} (e : FACE M w) (hi : i < 2) (hT : InvS T (wz w)) (hZ : ZOK (wz w)) (hg : ∀ j, j < 2 → g j = bI (if j = i then true else (wu w j).isSome)) : FACE (mset (sset M (145 + 3 + 7 * i) (cpS T T')) (145 + 2) (cZ 2 g)) (w.1, w.2.1, (fun j => if j = i then some (wz w) else wu w j), w.2.2.2) := by
  obtain ⟨h0, h1, h2, h3, h4, h5⟩ := e
  have hq : ∀ j, j ≠ 147 → (j < 145 + 3 + 7 * i ∨ 145 + 3 + 7 * i + 7 ≤ j) → mset (sset M (145 + 3 + 7 * i) (cpS T T')) (145 + 2) (cZ 2 g) j = M j := fun j h1 h2 => by rw [mset_ne (by omega), sset_out h2]
  refine ⟨(hq 0 (by omega) (by omega)).trans h0, h1.ext (fun j a b => hq j (by omega) (by omega)), h2.ext (fun j a b => hq j (by omega) (by omega)), h3.ext (fun j a b => hq j (by omega) (by omega)), ?_, h5.ext (fun j a b => hq j (by omega) (by omega))⟩
  obtain ⟨⟨f, g', s1, s2, s3, s4, s5⟩, s6⟩ := h4
  refine ⟨⟨f, g, (hq _ (by omega) (by omega)).trans s1, (hq _ (by omega) (by omega)).trans s2, s3, mset_same, fun j hj => ?_⟩, fun j hj => ?_⟩
  · rw [hg j hj]
    show _ = bI (if j = i then some (wz w) else wu w j).isSome
    split <;> rfl
  · by_cases c : j = i
    · subst c
      refine ⟨cpS T T', ?_, fun y hy => ?_⟩
      · intro n v hn
        have h7 : n < 7 := (List.getElem?_eq_some_iff.mp hn).1
        rw [mset_ne (by omega)]
        exact sset_get hn
      · have hy : (if j = j then some (wz w) else wu w j) = some y := hy
        rw [if_pos rfl] at hy
        cases hy
        exact hT.cp hZ
    · obtain ⟨X, x1, x2⟩ := s6 j hj
      refine ⟨X, x1.ext (fun n a b => hq n (by omega) (by omega)), fun y hy => x2 y ?_⟩
      have hy : (if j = i then some (wz w) else wu w j) = some y := hy
      rw [if_neg c] at hy
      exact hy
theorem FACE.text {M M' : Mem} {w : WS} {n : Nat} {f : Nat → Nat} (e : FACE M w) (hq : ∀ i, i ≠ 162 → i ≠ 163 → M' i = M i) (h : TXT M' 162 n f) : FACE M' (w.1, w.2.1, w.2.2.1, n, f) := by
  obtain ⟨h0, h1, h2, h3, h4, h5⟩ := e
  exact ⟨(hq 0 (by omega) (by omega)).trans h0, h1.ext (fun i a b => hq i (by omega) (by omega)), h2.ext (fun i a b => hq i (by omega) (by omega)), h3.ext (fun i a b => hq i (by omega) (by omega)), h4.ext (fun i a b => hq i (by omega) (by omega)), h⟩
/-- what a call of the face owes: its exceptions by number are xs -/
def tFc (xs : List String) (M : Mem) (r : RA) : TG := fun v Mf => FACE Mf r.2.2 ∧ (∀ i, 164 ≤ i → Mf i = M i) ∧ (match v with | .inl v => r.1 = 0 ∧ v = some (.int r.2.1) | .inr E => ∃ k, r.1 = k + 1 ∧ xs[k]? = some E)
theorem tFx {xs : List String} {M : Mem} {r : RA} {w : WS} {E : String} (k : Nat) (hr : r = rN (k + 1) w) (hF : FACE M w) (hx : xs[k]? = some E) : tFc xs M r (.inr E) M := by
  subst hr
  exact ⟨hF, fun _ _ => rfl, k, rfl, hx⟩
theorem tFo {xs : List String} {M Mf : Mem} {r : RA} {w : WS} {v : Int32} (hr : r = rO v w) (hF : FACE Mf w) (hk : ∀ i, 164 ≤ i → Mf i = M i) : tFc xs M r (.inl (some (.int v))) Mf := by
  subst hr
  exact ⟨hF, hk, rfl, rfl⟩
