/-- two places change their numbers -/
def exR (f : Nat → Nat) (i j : Nat) : Nat → Nat := ups (ups f i (f j)) j (f i)
def exZ (z : ZS) (i j : Nat) : ZS := zset (zset (zset (zset (zset z 1 (exR (zF z) i j)) 2 (exR (zO z) i j)) 3 (exR (zT z) i j)) 4 (exR (zU z) i j)) 5 (exR (zH z) i j)
def sw (i j k : Nat) : Nat := if k = j then i else if k = i then j else k
theorem exR_sw (f : Nat → Nat) (i j k : Nat) : exR f i j k = f (sw i j k) := by
  unfold exR sw
  by_cases h1 : k = j
  · rw [h1, ups_same, if_pos rfl]
  · rw [ups_ne h1, if_neg h1]
    by_cases h2 : k = i
    · rw [h2, ups_same, if_pos rfl]
    · rw [ups_ne h2, if_neg h2]
theorem exZ_F (z : ZS) (i j k : Nat) : zF (exZ z i j) k = zF z (sw i j k) := exR_sw _ _ _ _
theorem exZ_O (z : ZS) (i j k : Nat) : zO (exZ z i j) k = zO z (sw i j k) := exR_sw _ _ _ _
theorem exZ_T (z : ZS) (i j k : Nat) : zT (exZ z i j) k = zT z (sw i j k) := exR_sw _ _ _ _
theorem exZ_U (z : ZS) (i j k : Nat) : zU (exZ z i j) k = zU z (sw i j k) := exR_sw _ _ _ _
theorem exZ_H (z : ZS) (i j k : Nat) : zH (exZ z i j) k = zH z (sw i j k) := exR_sw _ _ _ _
theorem sw_lt {i j k n : Nat} (hi : i < n) (hj : j < n) (hk : k < n) : sw i j k < n := by unfold sw; split; exact hi; split; exact hj; exact hk
theorem sw_sw (i j k : Nat) : sw i j (sw i j k) = k := by
  unfold sw
  by_cases h1 : k = j <;> by_cases h2 : k = i <;> by_cases h3 : i = j <;> simp [h1, h2, h3] <;> omega
/-- the same places, otherwise numbered; r: the place behind the number -/
def Ren (z z' : ZS) (r : Nat → Nat) : Prop := zn z' = zn z ∧ zs z' = zs z ∧ zch z' = zch z ∧ (∀ s, zG z' s = zG z s) ∧ (∀ k, k < zt z → r k < zt z) ∧ (∀ k, k < zt z → ∃ j, j < zt z ∧ r j = k) ∧ (∀ i j, i < zt z → j < zt z → r i = r j → i = j) ∧ ∀ k, k < zt z → zF z' k = zF z (r k) ∧ zO z' k = zO z (r k) ∧ zT z' k = zT z (r k) ∧ zU z' k = zU z (r k) ∧ zH z' k = zH z (r k)
theorem Ren.rf (z : ZS) : Ren z z (fun k => k) := ⟨rfl, rfl, rfl, fun _ => rfl, fun _ h => h, fun k h => ⟨k, h, rfl⟩, fun _ _ _ _ e => e, fun _ _ => ⟨rfl, rfl, rfl, rfl, rfl⟩⟩
theorem Ren.ex {z z' : ZS} {r : Nat → Nat} (h : Ren z z' r) {i j : Nat} (hi : i < zt z) (hj : j < zt z) : Ren z (exZ z' i j) (fun k => r (sw i j k)) := by
  obtain ⟨h1, h2, h3, h4, h5, h6, h7, h8⟩ := h
  refine ⟨h1, h2, h3, h4, fun k hk => h5 _ (sw_lt hi hj hk), fun k hk => ?_, fun a c ha hc e => ?_, fun k hk => ?_⟩
  · obtain ⟨m, hm, e⟩ := h6 k hk
    exact ⟨sw i j m, sw_lt hi hj hm, by show r (sw i j (sw i j m)) = k; rw [sw_sw]; exact e⟩
  · have := h7 _ _ (sw_lt hi hj ha) (sw_lt hi hj hc) e
    rw [← sw_sw i j a, this, sw_sw]
  · have := h8 _ (sw_lt hi hj hk)
    rw [exZ_F, exZ_O, exZ_T, exZ_U, exZ_H]
    exact this
def dnF : Nat → ZS × Nat → ZS × Nat
  | 0, p => p
  | f + 1, p => if 0 < p.2 ∧ zF p.1 p.2 < zF p.1 (p.2 - 1) then dnF f (exZ p.1 (p.2 - 1) p.2, p.2 - 1) else p
def upF : Nat → ZS × Nat → ZS × Nat
  | 0, p => p
  | f + 1, p => if p.2 + 1 < zt p.1 ∧ zF p.1 (p.2 + 1) < zF p.1 p.2 then upF f (exZ p.1 p.2 (p.2 + 1), p.2 + 1) else p
def naZ (z : ZS) (l : Nat) : ZS := (upF 56 (dnF 56 (z, l))).1
/-- in order but for the place k -/
def NS (z : ZS) (k : Nat) : Prop := ∀ i j, i < j → j < zt z → i ≠ k → j ≠ k → zF z i < zF z j
def FI (z : ZS) : Prop := ∀ i j, i < zt z → j < zt z → zF z i = zF z j → i = j
theorem Ren.zt {z z' : ZS} {r : Nat → Nat} (h : Ren z z' r) : zt z' = zt z := zt_same h.1 h.2.1
theorem Ren.fi {z z' : ZS} {r : Nat → Nat} (h : Ren z z' r) (hf : FI z) : FI z' := by
  intro i j hi hj e
  have ez := h.zt
  rw [ez] at hi hj
  rw [(h.2.2.2.2.2.2.2 i hi).1, (h.2.2.2.2.2.2.2 j hj).1] at e
  exact h.2.2.2.2.2.2.1 i j hi hj (hf _ _ (h.2.2.2.2.1 i hi) (h.2.2.2.2.1 j hj) e)
theorem NS.dn {z : ZS} {k : Nat} (h : NS z k) (hk : 0 < k) : NS (exZ z (k - 1) k) (k - 1) := by
  intro i j hij hj hi1 hj1
  have hj : j < zt z := hj
  rw [exZ_F, exZ_F]
  have e1 : sw (k - 1) k i = if i = k then k - 1 else i := by unfold sw; rw [if_neg hi1]
  have e2 : sw (k - 1) k j = if j = k then k - 1 else j := by unfold sw; rw [if_neg hj1]
  rw [e1, e2]
  by_cases a : i = k <;> by_cases c : j = k
  · omega
  · rw [if_pos a, if_neg c]; exact h _ _ (by omega) hj (by omega) c
  · rw [if_neg a, if_pos c]; exact h _ _ (by omega) (by omega) a (by omega)
  · rw [if_neg a, if_neg c]; exact h _ _ hij hj a c
theorem NS.up {z : ZS} {k : Nat} (h : NS z k) (hk : k + 1 < zt z) : NS (exZ z k (k + 1)) (k + 1) := by
  intro i j hij hj hi1 hj1
  have hj : j < zt z := hj
  rw [exZ_F, exZ_F]
  have e1 : sw k (k + 1) i = if i = k then k + 1 else i := by unfold sw; rw [if_neg hi1]
  have e2 : sw k (k + 1) j = if j = k then k + 1 else j := by unfold sw; rw [if_neg hj1]
  rw [e1, e2]
  by_cases a : i = k <;> by_cases c : j = k
  · omega
  · rw [if_pos a, if_neg c]; exact h _ _ (by omega) hj (by omega) c
  · rw [if_neg a, if_pos c]; exact h _ _ (by omega) hk a (by omega)
  · rw [if_neg a, if_neg c]; exact h _ _ hij hj a c
/-- going down: what holds behind it -/
theorem dnF_spec {z0 : ZS} : ∀ (f : Nat) (z : ZS) (k : Nat) (r : Nat → Nat), Ren z0 z r → NS z k → FI z → k < zt z0 → k ≤ f →
    ∃ r', Ren z0 (dnF f (z, k)).1 r' ∧ NS (dnF f (z, k)).1 (dnF f (z, k)).2 ∧ (dnF f (z, k)).2 < zt z0 ∧ (∀ i, i < (dnF f (z, k)).2 → zF (dnF f (z, k)).1 i < zF (dnF f (z, k)).1 (dnF f (z, k)).2)
  | 0, z, k, r, hr, hn, hf, hk, hkf => ⟨r, hr, hn, hk, fun i hi => by have hi : i < k := hi; omega⟩
  | f + 1, z, k, r, hr, hn, hf, hk, hkf => by
    have ez := hr.zt
    unfold dnF
    by_cases c : 0 < k ∧ zF z k < zF z (k - 1)
    · rw [if_pos c]
      have hr' := hr.ex (i := k - 1) (j := k) (by omega) hk
      exact dnF_spec f _ _ _ hr' (hn.dn c.1) (hr'.fi (by
        intro i j hi hj e
        obtain ⟨a, ha, e1⟩ := hr.2.2.2.2.2.1 i hi
        obtain ⟨b, hb, e2⟩ := hr.2.2.2.2.2.1 j hj
        have h1 := (hr.2.2.2.2.2.2.2 a ha).1
        have h2 := (hr.2.2.2.2.2.2.2 b hb).1
        rw [← e1, ← e2] at e ⊢
        rw [hf a b (by omega) (by omega) (by rw [h1, h2, e])])) (by omega) (by omega)
    · rw [if_neg c]
      refine ⟨r, hr, hn, hk, fun i hi => ?_⟩
      have hi : i < k := hi
      show zF z i < zF z k
      have h1 : zF z (k - 1) < zF z k := by
        have h2 : zF z (k - 1) ≤ zF z k := Nat.not_lt.mp (fun h => c ⟨by omega, h⟩)
        rcases Nat.lt_or_eq_of_le h2 with h | h
        · exact h
        · have := hf _ _ (by omega) (by omega) h; omega
      rcases Nat.lt_or_ge i (k - 1) with h | h
      · exact Nat.lt_trans (hn i (k - 1) h (by omega) (by omega) (by omega)) h1
      · rw [show i = k - 1 by omega]; exact h1
theorem upF_spec {z0 : ZS} : ∀ (f : Nat) (z : ZS) (k : Nat) (r : Nat → Nat), Ren z0 z r → NS z k → FI z → k < zt z0 → zt z0 ≤ k + f + 1 → (∀ i, i < k → zF z i < zF z k) →
    ∃ r', Ren z0 (upF f (z, k)).1 r' ∧ ∀ i j, i < j → j < zt z0 → zF (upF f (z, k)).1 i < zF (upF f (z, k)).1 j
  | f, z, k, r, hr, hn, hf, hk, hkf, hlow => by
    have ez := hr.zt
    have stop : (k + 1 < zt z → zF z k < zF z (k + 1)) → ∀ i j, i < j → j < zt z0 → zF z i < zF z j := by
      intro h i j hij hj
      by_cases a : j = k
      · rw [a]; exact hlow i (by omega)
      · by_cases c : i = k
        · subst c
          have h1 := h (by omega)
          rcases Nat.lt_or_ge (i + 1) j with q | q
          · exact Nat.lt_trans h1 (hn _ _ q (by omega) (by omega) a)
          · rw [show j = i + 1 by omega]; exact h1
        · exact hn i j hij (by omega) c a
    cases f with
    | zero => exact ⟨r, hr, stop (fun h => by omega)⟩
    | succ f =>
      unfold upF
      by_cases c : k + 1 < zt z ∧ zF z (k + 1) < zF z k
      · rw [if_pos c]
        have hk1 : k + 1 < zt z0 := by omega
        have hr' := hr.ex (i := k) (j := k + 1) hk hk1
        refine upF_spec f _ _ _ hr' (hn.up c.1) (hr'.fi (by
          intro i j hi hj e
          obtain ⟨a, ha, e1⟩ := hr.2.2.2.2.2.1 i hi
          obtain ⟨b, hb, e2⟩ := hr.2.2.2.2.2.1 j hj
          have h1 := (hr.2.2.2.2.2.2.2 a ha).1
          have h2 := (hr.2.2.2.2.2.2.2 b hb).1
          rw [← e1, ← e2] at e ⊢
          rw [hf a b (by omega) (by omega) (by rw [h1, h2, e])])) (by omega) (by omega) (fun i hi => ?_)
        show zF (exZ z k (k + 1)) i < zF (exZ z k (k + 1)) (k + 1)
        rw [exZ_F, exZ_F]
        have e2 : sw k (k + 1) (k + 1) = k := by unfold sw; rw [if_pos rfl]
        rw [e2]
        have hi : i < k + 1 := hi
        by_cases a : i = k
        · have e1 : sw k (k + 1) i = k + 1 := by unfold sw; rw [if_neg (by omega), if_pos a]
          rw [e1]; exact c.2
        · have e1 : sw k (k + 1) i = i := by unfold sw; rw [if_neg (by omega), if_neg a]
          rw [e1]; exact hlow i (by omega)
      · rw [if_neg c]
        refine ⟨r, hr, stop (fun h => ?_)⟩
        have h2 : zF z k ≤ zF z (k + 1) := Nat.not_lt.mp (fun h3 => c ⟨h, h3⟩)
        rcases Nat.lt_or_eq_of_le h2 with q | q
        · exact q
        · have := hf _ _ (by omega) h q; omega
theorem naZ_spec {z : ZS} {l : Nat} (hn : NS z l) (hf : FI z) (hl : l < zt z) (h56 : zt z ≤ 56) : ∃ r, Ren z (naZ z l) r ∧ ∀ i j, i < j → j < zt z → zF (naZ z l) i < zF (naZ z l) j := by
  obtain ⟨r1, hr1, hn1, hk1, hlow⟩ := dnF_spec 56 z l _ (Ren.rf z) hn hf hl (by omega)
  exact upF_spec 56 (dnF 56 (z, l)).1 (dnF 56 (z, l)).2 r1 hr1 hn1 (hr1.fi hf) hk1 (by omega) hlow
/-- the block turned, the places not yet numbered anew -/
def fl1 (z : ZS) (k l : Nat) : ZS := zset (zset z 2 (ups (zO z) k (zF z k + stp z k))) 1 (ups (zF z) l (fst2 z k))
def flipZ (z : ZS) (k l : Nat) : ZS := zchg (naZ (layW (layW (fl1 z k l) k) l) l)
theorem fl1_F {z : ZS} {k l i : Nat} : zF (fl1 z k l) i = if i = l then fst2 z k else zF z i := rfl
theorem fl1_O {z : ZS} {k l i : Nat} : zO (fl1 z k l) i = if i = k then zF z k + stp z k else zO z i := rfl
theorem lay2_F (z : ZS) (k l i : Nat) : zF (layW (layW z k) l) i = zF z i := rfl
theorem lay2_O (z : ZS) (k l i : Nat) : zO (layW (layW z k) l) i = zO z i := rfl
theorem fl1_facts {z : ZS} (h : ZOK z) {k l : Nat} (hk : k < zt z) (hp : part z k = some l) :
    (∀ i, i < zt z → zF (fl1 z k l) i < zO (fl1 z k l) i ∧ zO (fl1 z k l) i < zq z ∧ (zO (fl1 z k l) i = zF (fl1 z k l) i + 1 ∧ zF (fl1 z k l) i % zc z + 1 < zc z ∨ zO (fl1 z k l) i = zF (fl1 z k l) i + zc z)) ∧
    NS (fl1 z k l) l ∧ FI (fl1 z k l) ∧ (∀ i j, i < zt z → j < zt z → zF (fl1 z k l) i ≠ zO (fl1 z k l) j) ∧ (∀ i j, i < zt z → j < zt z → zO (fl1 z k l) i = zO (fl1 z k l) j → i = j) ∧ (∀ s, s < zq z → ∃ i, i < zt z ∧ (zF (fl1 z k l) i = s ∨ zO (fl1 z k l) i = s)) := by
  have hl := part_lt h hp
  obtain ⟨e1, e2, e3, e4⟩ := part_geo h hk hp
  obtain ⟨-, p2, p3⟩ := part_F h hp
  have hd := h.dims
  have fk := h.fo hk
  have flx := h.fo hl
  have hst : stp z k = if al z k then zc z else 1 := rfl
  have hF : ∀ i, zF (fl1 z k l) i = if i = l then zO z k else zF z i := fun i => by rw [fl1_F, e1]
  have hO : ∀ i, zO (fl1 z k l) i = if i = k then zF z l else zO z i := fun i => by rw [fl1_O, e2]
  refine ⟨fun i hi => ?_, fun i j hij hj hi1 hj1 => ?_, fun i j hi hj e => ?_, fun i j hi hj e => ?_, fun i j hi hj e => ?_, fun s hs => ?_⟩
  · rw [hF, hO]
    by_cases a : i = l
    · subst a
      rw [if_pos rfl, if_neg e4]
      cases ha : al z k with
      | true =>
        have q1 : zO z k = zF z k + 1 := of_decide_eq_true ha
        rw [ha] at hst p2
        have q2 : zO z i = zF z i + 1 := of_decide_eq_true p2
        simp at hst
        exact ⟨by omega, by omega, Or.inr (by omega)⟩
      | false =>
        have q1 : ¬ zO z k = zF z k + 1 := of_decide_eq_false ha
        rw [ha] at hst p2
        have q2 : ¬ zO z i = zF z i + 1 := of_decide_eq_false p2
        simp at hst
        have q3 := p3 ha
        have q4 : zF z k % zc z < zc z := Nat.mod_lt _ (by omega)
        have q5 : zO z k = zF z k + zc z := by omega
        refine ⟨by omega, by omega, Or.inl ⟨by omega, ?_⟩⟩
        rw [q5, Nat.add_mod_right]
        omega
    · rw [if_neg a]
      by_cases c : i = k
      · subst c
        rw [if_pos rfl]
        cases ha : al z i with
        | true =>
          rw [ha] at hst
          simp at hst
          exact ⟨by omega, by omega, Or.inr (by omega)⟩
        | false =>
          rw [ha] at hst
          simp at hst
          have q3 := p3 ha
          have q4 : zF z i % zc z < zc z := Nat.mod_lt _ (by omega)
          exact ⟨by omega, by omega, Or.inl ⟨by omega, by omega⟩⟩
      · rw [if_neg c]; exact h.fo hi
  · rw [hF, hF, if_neg hi1, if_neg hj1]; exact h.mono hij hj
  · have hi : i < zt z := hi
    have hj : j < zt z := hj
    rw [hF, hF] at e
    by_cases a : i = l <;> by_cases c : j = l
    · omega
    · rw [if_pos a, if_neg c] at e; exact absurd e.symm (h.fno hj hk)
    · rw [if_neg a, if_pos c] at e; exact absurd e (h.fno hi hk)
    · rw [if_neg a, if_neg c] at e; exact h.finj hi hj e
  · rw [hF, hO] at e
    by_cases a : i = l <;> by_cases c : j = k
    · rw [if_pos a, if_pos c] at e; exact h.fno hl hk e.symm
    · rw [if_pos a, if_neg c] at e; exact c (h.oinj hj hk e.symm)
    · rw [if_neg a, if_pos c] at e; exact a (h.finj hi hl e)
    · rw [if_neg a, if_neg c] at e; exact h.fno hi hj e
  · rw [hO, hO] at e
    by_cases a : i = k <;> by_cases c : j = k
    · omega
    · rw [if_pos a, if_neg c] at e; exact absurd e (h.fno hl hj)
    · rw [if_neg a, if_pos c] at e; exact absurd e.symm (h.fno hl hi)
    · rw [if_neg a, if_neg c] at e; exact h.oinj hi hj e
  · obtain ⟨i, hi, e⟩ := h.cov hs
    rcases e with e | e
    · by_cases a : i = l
      · refine ⟨k, hk, Or.inr ?_⟩
        rw [hO, if_pos rfl, ← a]; exact e
      · exact ⟨i, hi, Or.inl (by rw [hF, if_neg a]; exact e)⟩
    · by_cases c : i = k
      · refine ⟨l, hl, Or.inl ?_⟩
        rw [hF, if_pos rfl, ← c]; exact e
      · exact ⟨i, hi, Or.inr (by rw [hO, if_neg c]; exact e)⟩
/-- what a turned block is: the places of fl1, laid as well as can be, in order -/
theorem flipZ_ren {z : ZS} (h : ZOK z) {k l : Nat} (hk : k < zt z) (hp : part z k = some l) : ∃ r, Ren (layW (layW (fl1 z k l) k) l) (naZ (layW (layW (fl1 z k l) k) l) l) r ∧ ∀ i j, i < j → j < zt z → zF (flipZ z k l) i < zF (flipZ z k l) j := by
  have hl := part_lt h hp
  obtain ⟨f1, f2, f3, -⟩ := fl1_facts h hk hp
  exact naZ_spec (z := layW (layW (fl1 z k l) k) l) (l := l) f2 f3 hl h.dims.2.2.2.2.2.1
theorem flipZ_ok {z : ZS} (h : ZOK z) {k l : Nat} (hk : k < zt z) (hp : part z k = some l) : ZOK (flipZ z k l) := by
  obtain ⟨r, hr, hm⟩ := flipZ_ren h hk hp
  obtain ⟨f1, -, -, f4, f5, f6⟩ := fl1_facts h hk hp
  obtain ⟨r1, r2, r3, r4, r5, r6, r7, r8⟩ := hr
  have g1 : zn (flipZ z k l) = zn z := r1
  have g2 : zs (flipZ z k l) = zs z := r2
  have ez : zt (flipZ z k l) = zt z := zt_same g1 g2
  have ec : zc (flipZ z k l) = zc z := by unfold zc; rw [g1]
  have eq : zq (flipZ z k l) = zq z := by unfold zq zc zr; rw [g1, g2]
  refine ⟨by rw [g1, g2]; exact h.1, fun s hs => ?_, fun i hi => ?_, fun i j hij hj => hm i j hij (by omega), fun i j hi hj => ?_, fun i j hi hj e => ?_, fun s hs => ?_, fun i hi => ?_, fun i hi => ?_, fun i hi => ?_⟩
  · show zG (naZ _ l) s ≤ 99
    rw [r4]; exact h.g (by omega)
  · rw [ez] at hi
    have q := r8 i hi
    show zF (naZ _ l) i < zO (naZ _ l) i ∧ zO (naZ _ l) i < zq (flipZ z k l) ∧ (zO (naZ _ l) i = zF (naZ _ l) i + 1 ∧ zF (naZ _ l) i % zc (flipZ z k l) + 1 < zc (flipZ z k l) ∨ zO (naZ _ l) i = zF (naZ _ l) i + zc (flipZ z k l))
    rw [q.1, q.2.1, eq, ec]
    exact f1 _ (r5 i hi)
  · rw [ez] at hi hj
    show zF (naZ _ l) i ≠ zO (naZ _ l) j
    rw [(r8 i hi).1, (r8 j hj).2.1]
    exact f4 _ _ (r5 i hi) (r5 j hj)
  · rw [ez] at hi hj
    have e : zO (naZ (layW (layW (fl1 z k l) k) l) l) i = zO (naZ (layW (layW (fl1 z k l) k) l) l) j := e
    rw [(r8 i hi).2.1, (r8 j hj).2.1] at e
    exact r7 i j hi hj (f5 _ _ (r5 i hi) (r5 j hj) e)
  · rw [eq] at hs
    obtain ⟨i, hi, e⟩ := f6 s hs
    obtain ⟨j, hj, ej⟩ := r6 i hi
    refine ⟨j, by rw [ez]; exact hj, ?_⟩
    have q := r8 j hj
    show zF (naZ _ l) j = s ∨ zO (naZ _ l) j = s
    rw [q.1, q.2.1, ej]
    exact e
  · rw [ez] at hi ⊢
    show zT (naZ _ l) i < zt z
    rw [(r8 i hi).2.2.1]; exact h.t (r5 i hi)
  · rw [ez] at hi
    show zU (naZ _ l) i ≤ 1
    rw [(r8 i hi).2.2.2.1]
    exact ups_le (n := zt z) (ups_le (fun _ hj => h.u hj) (bet_le _ _ _ _)) (bet_le _ _ _ _) _ (r5 i hi)
  · rw [ez] at hi
    show zH (naZ _ l) i ≤ 1
    rw [(r8 i hi).2.2.2.2]; exact h.h (r5 i hi)
theorem flipZ_tok {z : ZS} (h : ZOK z) (ht : TOK z) {k l : Nat} (hk : k < zt z) (hp : part z k = some l) : TOK (flipZ z k l) := by
  obtain ⟨r, hr, -⟩ := flipZ_ren h hk hp
  obtain ⟨r1, r2, r3, r4, r5, r6, r7, r8⟩ := hr
  intro i j hi hj e
  have ez : zt (flipZ z k l) = zt z := zt_same r1 r2
  rw [ez] at hi hj
  have e : zT (naZ (layW (layW (fl1 z k l) k) l) l) i = zT (naZ (layW (layW (fl1 z k l) k) l) l) j := e
  rw [(r8 i hi).2.2.1, (r8 j hj).2.2.1] at e
  exact r7 i j hi hj (ht _ _ (r5 i hi) (r5 j hj) e)
