/-! what the law says, of portraits as numbers -/
theorem lw_e4 (z : ZS) (f o t u : Nat) : lw z f o t ≤ e4 z f o t u := by
  unfold lw lst e4
  split <;> split <;> omega
theorem lw_er (z : ZS) (k : Nat) : lw z (zF z k) (zO z k) (zT z k) ≤ er z k := lw_e4 z _ _ _ _
theorem tg_le {z : ZS} (h : ZOK z) {k : Nat} (hk : k < zt z) : tgZ z k ≤ er z k := by
  have := h.ekB (u := 1 - zU z k) hk
  unfold tgZ; omega
theorem turn_back {z : ZS} {k : Nat} (hu : zU z k ≤ 1) : tgZ (turnZ z k) k = -tgZ z k := by
  show ek z k (ups (zU z) k (1 - zU z k) k) - ek z k (1 - ups (zU z) k (1 - zU z k) k) = -(ek z k (zU z k) - ek z k (1 - zU z k))
  rw [ups_same, show 1 - (1 - zU z k) = zU z k by omega]
  omega
theorem sg_sym (z : ZS) (j k : Nat) : sgZ z j k = sgZ z k j := by unfold sgZ; omega
theorem swap_er {z : ZS} {j k : Nat} (hjk : j ≠ k) : er (swapZ z j k) j = lw z (zF z j) (zO z j) (zT z k) ∧ er (swapZ z j k) k = lw z (zF z k) (zO z k) (zT z j) ∧ zT (swapZ z j k) j = zT z k ∧ zT (swapZ z j k) k = zT z j := by
  have q : ∀ i, er (swapZ z j k) i = e4 z (zF z i) (zO z i) (ups (ups (zT z) j (zT z k)) k (zT z j) i) (ups (ups (zU z) j (bet z (zF z j) (zO z j) (ups (ups (zT z) j (zT z k)) k (zT z j) j))) k (bet z (zF z k) (zO z k) (ups (ups (zT z) j (zT z k)) k (zT z j) k)) i) := fun i => rfl
  refine ⟨?_, ?_, ?_, ?_⟩
  · rw [q, ups_ne hjk, ups_same, ups_ne hjk, ups_same, e4_bet]
  · rw [q, ups_same, ups_same, e4_bet]
  · show ups (ups (zT z) j (zT z k)) k (zT z j) j = zT z k
    rw [ups_ne hjk, ups_same]
  · show ups (ups (zT z) j (zT z k)) k (zT z j) k = zT z j
    rw [ups_same]
theorem swap_tg {z : ZS} {j k i : Nat} (hi : er (swapZ z j k) i = lw z (zF z i) (zO z i) (zT (swapZ z j k) i)) : tgZ (swapZ z j k) i ≤ 0 := by
  have h1 : lw z (zF z i) (zO z i) (zT (swapZ z j k) i) ≤ ek (swapZ z j k) i (1 - zU (swapZ z j k) i) := lw_e4 z _ _ _ _
  unfold tgZ; omega
theorem swap_back {z : ZS} {j k : Nat} (hjk : j ≠ k) : tgZ (swapZ z j k) j ≤ 0 ∧ tgZ (swapZ z j k) k ≤ 0 ∧ -sgZ z k j ≤ sgZ (swapZ z j k) k j := by
  obtain ⟨e1, e2, e3, e4⟩ := swap_er (z := z) hjk
  refine ⟨swap_tg (by rw [e1, e3]), swap_tg (by rw [e2, e4]), ?_⟩
  have h1 := lw_er z j
  have h2 := lw_er z k
  have q : sgZ (swapZ z j k) k j = er (swapZ z j k) k + er (swapZ z j k) j - lw z (zF z k) (zO z k) (zT (swapZ z j k) j) - lw z (zF z j) (zO z j) (zT (swapZ z j k) k) := rfl
  rw [q, e1, e2, e3, e4]
  unfold sgZ
  omega
theorem flip_back {z : ZS} (h : ZOK z) {k l : Nat} (hk : k < zt z) (hp : part z k = some l) : ∃ k' l', blk (flipZ z k l) (zF z k) = some k' ∧ part (flipZ z k l) k' = some l' ∧ -fgZ z k l ≤ fgZ (flipZ z k l) k' l' := by
  have hl := part_lt h hp
  have hd := h.dims
  obtain ⟨g1, g2, g3, hlk⟩ := part_geo h hk hp
  obtain ⟨-, p2, p3⟩ := part_F h hp
  have hok := flipZ_ok h hk hp
  obtain ⟨r, hr, -⟩ := flipZ_ren h hk hp
  obtain ⟨r1, r2, r3, r4, r5, r6, r7, r8⟩ := hr
  have ez : zt (flipZ z k l) = zt z := zt_same r1 r2
  have ec : zc (flipZ z k l) = zc z := by
    show zn (flipZ z k l) + 2 = zn z + 2
    rw [show zn (flipZ z k l) = zn z from r1]
  have q0 : ∀ i, i < zt z → er (flipZ z k l) i = er (layW (layW (fl1 z k l) k) l) (r i) := by
    intro i hi
    have q8 := r8 i hi
    show e4 (naZ _ l) (zF (naZ (layW (layW (fl1 z k l) k) l) l) i) (zO (naZ (layW (layW (fl1 z k l) k) l) l) i) (zT (naZ (layW (layW (fl1 z k l) k) l) l) i) (zU (naZ (layW (layW (fl1 z k l) k) l) l) i) = _
    rw [q8.1, q8.2.1, q8.2.2.1, q8.2.2.2.1]
    show e4 _ _ _ _ _ = e4 _ _ _ _ _
    unfold e4 ha hb
    rw [r1, r4, r4]
  have q : ∀ i, er (layW (layW (fl1 z k l) k) l) i = e4 z (zF (fl1 z k l) i) (zO (fl1 z k l) i) (zT z i) (ups (ups (zU z) k (bet z (zF (fl1 z k l) k) (zO (fl1 z k l) k) (zT z k))) l (bet z (zF (fl1 z k l) l) (zO (fl1 z k l) l) (zT z l)) i) := fun i => rfl
  have e2 : er (layW (layW (fl1 z k l) k) l) k = lw z (zF z k) (zF z k + stp z k) (zT z k) := by
    rw [q, ups_ne (Ne.symm hlk), ups_same, e4_bet, fl1_F, fl1_O, if_neg (Ne.symm hlk), if_pos rfl]
  have e3 : er (layW (layW (fl1 z k l) k) l) l = lw z (fst2 z k) (fst2 z k + stp z k) (zT z l) := by
    rw [q, ups_same, e4_bet, fl1_F, fl1_O, if_pos rfl, if_neg hlk, g3]
  obtain ⟨k', hk', ek'⟩ := r6 k hk
  obtain ⟨l', hl', el'⟩ := r6 l hl
  have a1 : zF (flipZ z k l) k' = zF z k := by
    show zF (naZ (layW (layW (fl1 z k l) k) l) l) k' = _
    rw [(r8 k' hk').1, ek', lay2_F, fl1_F, if_neg (Ne.symm hlk)]
  have a2 : zO (flipZ z k l) k' = zF z l := by
    show zO (naZ (layW (layW (fl1 z k l) k) l) l) k' = _
    rw [(r8 k' hk').2.1, ek', lay2_O, fl1_O, if_pos rfl, g2]
  have a3 : zF (flipZ z k l) l' = zO z k := by
    show zF (naZ (layW (layW (fl1 z k l) k) l) l) l' = _
    rw [(r8 l' hl').1, el', lay2_F, fl1_F, if_pos rfl, g1]
  have a4 : zO (flipZ z k l) l' = zO z l := by
    show zO (naZ (layW (layW (fl1 z k l) k) l) l) l' = _
    rw [(r8 l' hl').2.1, el', lay2_O, fl1_O, if_neg hlk]
  have a5 : zT (flipZ z k l) k' = zT z k := by
    show zT (naZ (layW (layW (fl1 z k l) k) l) l) k' = _
    rw [(r8 k' hk').2.2.1, ek']; rfl
  have a6 : zT (flipZ z k l) l' = zT z l := by
    show zT (naZ (layW (layW (fl1 z k l) k) l) l) l' = _
    rw [(r8 l' hl').2.2.1, el']; rfl
  have b1 : er (flipZ z k l) k' = lw z (zF z k) (zF z k + stp z k) (zT z k) := by rw [q0 k' hk', ek', e2]
  have b2 : er (flipZ z k l) l' = lw z (fst2 z k) (fst2 z k + stp z k) (zT z l) := by rw [q0 l' hl', el', e3]
  have hst : stp z k = if al z k then zc z else 1 := rfl
  have hf2 : fst2 z k = zF z k + (if al z k then 1 else zc z) := rfl
  have fk := h.fo hk
  have flx := h.fo hl
  have c1 : al (flipZ z k l) k' = !al z k := by
    show decide (zO (flipZ z k l) k' = zF (flipZ z k l) k' + 1) = _
    rw [a1, a2, ← g2, hst]
    cases ha : al z k with
    | true => exact decide_eq_false (by show ¬ zF z k + zc z = zF z k + 1; omega)
    | false => exact decide_eq_true rfl
  have c2 : al (flipZ z k l) l' = !al z k := by
    show decide (zO (flipZ z k l) l' = zF (flipZ z k l) l' + 1) = _
    rw [a3, a4, ← g3, g1, hst]
    cases ha : al z k with
    | true => exact decide_eq_false (by show ¬ zO z k + zc z = zO z k + 1; omega)
    | false => exact decide_eq_true rfl
  have hpk : part (flipZ z k l) k' = some l' := by
    refine (part_spec hok).mpr ⟨by rw [ez]; exact hl', ?_⟩
    unfold pkB stt
    rw [c1, c2, a1, a3, ec]
    have s1 : zO z k = zF z k + (if (!al z k) = true then zc z else 1) := by
      rw [← g1, hf2]
      cases al z k <;> rfl
    rw [decide_eq_true s1]
    cases ha : al z k with
    | true =>
      have q1 : zO z k = zF z k + 1 := of_decide_eq_true ha
      have q2 : zF z k % zc z ≠ zc z - 1 := by omega
      simp [q2]
    | false => simp
  refine ⟨k', l', (blk_some hok).mpr ⟨by rw [ez]; exact hk', a1, by rw [hpk]; rfl⟩, hpk, ?_⟩
  have s2 : stp (flipZ z k l) k' = if al z k then 1 else zc z := by
    show (if al (flipZ z k l) k' then zc (flipZ z k l) else 1) = _
    rw [c1, ec]
    cases al z k <;> rfl
  have s3 : fst2 (flipZ z k l) k' = zF z l := by
    show zF (flipZ z k l) k' + (if al (flipZ z k l) k' then 1 else zc (flipZ z k l)) = _
    rw [c1, ec, a1, ← g2, hst]
    cases al z k <;> rfl
  have s4 : zF z k + (if al z k then 1 else zc z) = zO z k := by rw [← g1, hf2]
  have s5 : zF z l + (if al z k then 1 else zc z) = zO z l := by
    rw [← p2]
    cases ha : al z l with
    | true => have q1 : zO z l = zF z l + 1 := of_decide_eq_true ha; exact q1.symm
    | false =>
      have q1 : ¬ zO z l = zF z l + 1 := of_decide_eq_false ha
      show zF z l + zc z = zO z l
      omega
  have elw : ∀ f o t, lw (flipZ z k l) f o t = lw z f o t := by
    intro f o t
    show lst (zG (naZ _ l) f) (zG (naZ _ l) o) _ _ = lst _ _ _ _
    unfold ha hb
    rw [r4, r4, show zn (flipZ z k l) = zn z from r1]; rfl
  have e : fgZ (flipZ z k l) k' l' = er (flipZ z k l) k' + er (flipZ z k l) l' - lw (flipZ z k l) (zF (flipZ z k l) k') (zF (flipZ z k l) k' + stp (flipZ z k l) k') (zT (flipZ z k l) k') - lw (flipZ z k l) (fst2 (flipZ z k l) k') (fst2 (flipZ z k l) k' + stp (flipZ z k l) k') (zT (flipZ z k l) l') := rfl
  rw [e, elw, elw, b1, b2, a1, a5, a6, s2, s3, s4, s5]
  have h1 := lw_er z k
  have h2 := lw_er z l
  unfold fgZ
  omega
/-! the best change -/
def cov (o : Option (Nat × Int)) (n : Nat) (g : Int) : Prop := ∃ m h, o = some (m, h) ∧ (g < h ∨ g = h ∧ m ≤ n)
def topO (o : Option (Nat × Int)) (N : Nat) : Prop := ∀ m h, o = some (m, h) → m < N
theorem cov_keep {o : Option (Nat × Int)} {n n' : Nat} {g g' : Int} (hc : cov o n g) : cov (offZ o n' g') n g := by
  obtain ⟨m, h, e, hh⟩ := hc
  subst e
  show cov (if h < g' then some (n', g') else some (m, h)) n g
  split
  · exact ⟨n', g', rfl, Or.inl (by omega)⟩
  · exact ⟨m, h, rfl, hh⟩
theorem cov_new {o : Option (Nat × Int)} {n' : Nat} {g' : Int} (ht : topO o n') : cov (offZ o n' g') n' g' := by
  cases o with
  | none => exact ⟨n', g', rfl, Or.inr ⟨rfl, Nat.le_refl _⟩⟩
  | some p =>
    obtain ⟨m, h⟩ := p
    show cov (if h < g' then some (n', g') else some (m, h)) n' g'
    have := ht m h rfl
    split
    · exact ⟨n', g', rfl, Or.inr ⟨rfl, Nat.le_refl _⟩⟩
    · refine ⟨m, h, rfl, ?_⟩
      by_cases e : g' = h
      · exact Or.inr ⟨e, by omega⟩
      · exact Or.inl (by omega)
theorem topO_off {o : Option (Nat × Int)} {n' N N' : Nat} {g' : Int} (ht : topO o N) (h1 : N ≤ N') (h2 : n' < N') : topO (offZ o n' g') N' := by
  intro m h e
  cases o with
  | none => cases e; exact h2
  | some p =>
    obtain ⟨m0, h0⟩ := p
    have e : (if h0 < g' then some (n', g') else some (m0, h0)) = some (m, h) := e
    split at e
    · cases e; exact h2
    · cases e; have := ht m h rfl; omega
theorem topO_le {o : Option (Nat × Int)} {N N' : Nat} (ht : topO o N) (h1 : N ≤ N') : topO o N' := fun m h e => Nat.lt_of_lt_of_le (ht m h e) h1
theorem tuF_top {z : ZS} : ∀ n, topO (tuF z n) n
  | 0 => fun m h e => by cases e
  | n + 1 => by
    unfold tuF
    split
    · exact topO_off (tuF_top n) (by omega) (by omega)
    · exact topO_le (tuF_top n) (by omega)
theorem tuF_cov {z : ZS} {k : Nat} (hf : zH z k = 0) : ∀ n, k < n → cov (tuF z n) k (tgZ z k)
  | 0, h => absurd h (Nat.not_lt_zero _)
  | n + 1, h => by
    by_cases e : k = n
    · subst e
      unfold tuF
      rw [if_pos hf]
      exact cov_new (tuF_top k)
    · have ih := tuF_cov hf n (by omega)
      unfold tuF
      split
      · exact cov_keep ih
      · exact ih
theorem swF_top {z : ZS} {j : Nat} {o : Option (Nat × Int)} (ho : topO o (10000 + 100 * j)) : ∀ n, topO (swF z j o n) (10000 + 100 * j + n)
  | 0 => ho
  | n + 1 => by
    unfold swF
    split
    · exact topO_off (swF_top ho n) (by omega) (by omega)
    · exact topO_le (swF_top ho n) (by omega)
theorem swF_keep {z : ZS} {j : Nat} {o : Option (Nat × Int)} {m : Nat} {g : Int} (ho : cov o m g) : ∀ n, cov (swF z j o n) m g
  | 0 => ho
  | n + 1 => by
    unfold swF
    split
    · exact cov_keep (swF_keep ho n)
    · exact swF_keep ho n
theorem swF_cov {z : ZS} {j k : Nat} {o : Option (Nat × Int)} (ho : topO o (10000 + 100 * j)) (hjk : j < k) (hf : zH z k = 0) : ∀ n, k < n → cov (swF z j o n) (10000 + 100 * j + k) (sgZ z j k)
  | 0, h => absurd h (Nat.not_lt_zero _)
  | n + 1, h => by
    by_cases e : k = n
    · subst e
      unfold swF
      rw [if_pos ⟨hjk, hf⟩]
      exact cov_new (swF_top ho k)
    · have ih := swF_cov ho hjk hf n (by omega)
      unfold swF
      split
      · exact cov_keep ih
      · exact ih
theorem swA_top {z : ZS} (hz : zt z ≤ 56) {o : Option (Nat × Int)} (ho : topO o 10000) : ∀ n, topO (swA z o n) (10000 + 100 * n)
  | 0 => ho
  | n + 1 => by
    unfold swA
    split
    · exact topO_le (swF_top (swA_top hz ho n) (zt z)) (by omega)
    · exact topO_le (swA_top hz ho n) (by omega)
theorem swA_keep {z : ZS} {o : Option (Nat × Int)} {m : Nat} {g : Int} (ho : cov o m g) : ∀ n, cov (swA z o n) m g
  | 0 => ho
  | n + 1 => by
    unfold swA
    split
    · exact swF_keep (swA_keep ho n) _
    · exact swA_keep ho n
theorem swA_cov {z : ZS} (hz : zt z ≤ 56) {j k : Nat} {o : Option (Nat × Int)} (ho : topO o 10000) (hjk : j < k) (hk : k < zt z) (hj0 : zH z j = 0) (hf : zH z k = 0) : ∀ n, j < n → cov (swA z o n) (10000 + 100 * j + k) (sgZ z j k)
  | 0, h => absurd h (Nat.not_lt_zero _)
  | n + 1, h => by
    by_cases e : j = n
    · subst e
      unfold swA
      rw [if_pos hj0]
      exact swF_cov (swA_top hz ho j) hjk hf _ hk
    · have ih := swA_cov hz ho hjk hk hj0 hf n (by omega)
      unfold swA
      split
      · exact swF_keep ih _
      · exact ih
theorem flF_keep {z : ZS} {o : Option (Nat × Int)} {m : Nat} {g : Int} (ho : cov o m g) : ∀ n, cov (flF z o n) m g
  | 0 => ho
  | n + 1 => by
    have ih := flF_keep (z := z) ho n
    unfold flF
    split
    · exact ih
    · split
      · exact cov_keep ih
      · exact ih
theorem best_turn {z : ZS} {k : Nat} (hk : k < zt z) (hf : zH z k = 0) : cov (bestZ z) k (tgZ z k) := flF_keep (swA_keep (tuF_cov hf _ hk) _) _
theorem best_swap {z : ZS} (h : ZOK z) {j k : Nat} (hjk : j < k) (hk : k < zt z) (hj0 : zH z j = 0) (hf : zH z k = 0) : cov (bestZ z) (10000 + 100 * j + k) (sgZ z j k) := by
  have hd := h.dims
  exact flF_keep (swA_cov hd.2.2.2.2.2.1 (topO_le (tuF_top _) (by omega)) hjk hk hj0 hf _ (by omega)) _
theorem best_none {z : ZS} (hb : bestZ z = none) {k : Nat} (hk : k < zt z) : zH z k ≠ 0 := by
  intro hf
  obtain ⟨m, h, e, -⟩ := best_turn hk hf
  rw [hb] at e; cases e
theorem gn_swap {z : ZS} (h : ZOK z) {j k : Nat} (hjk : j < k) (hk : k < zt z) : posZ z (10000 + 100 * j + k) = true ∧ gnZ z (10000 + 100 * j + k) = sgZ z j k := by
  have hd := h.dims
  have a1 : (10000 + 100 * j + k) % 10000 / 100 = j := by omega
  have a2 : (10000 + 100 * j + k) % 10000 % 100 = k := by omega
  unfold posZ gnZ
  rw [if_neg (by omega), if_pos (by omega), if_neg (by omega), if_pos (by omega), a1, a2]
  exact ⟨by simp [hjk, hk], rfl⟩
theorem gn_turn {z : ZS} (h : ZOK z) {k : Nat} (hk : k < zt z) : posZ z k = true ∧ gnZ z k = tgZ z k := by
  have hd := h.dims
  unfold posZ gnZ
  rw [if_pos (by omega), if_pos (by omega)]
  exact ⟨decide_eq_true hk, rfl⟩
theorem gn_flip {z : ZS} {s : Nat} (hs : s < 10000) : posZ z (20000 + s) = (blk z s).isSome ∧ ∀ k l, blk z s = some k → part z k = some l → gnZ z (20000 + s) = fgZ z k l := by
  have a1 : (20000 + s) % 10000 = s := by omega
  unfold posZ gnZ
  rw [if_neg (by omega), if_neg (by omega), if_neg (by omega), if_neg (by omega), a1]
  refine ⟨rfl, fun k l hb hp => ?_⟩
  rw [hb]
  show (match part z k with | none => 0 | some l => fgZ z k l) = _
  rw [hp]
theorem VG_gn {z : ZS} (h : ZOK z) {n : Nat} {g : Int} (hv : VG z n g) : posZ z n = true ∧ gnZ z n = g ∧ n < 30000 := by
  have hd := h.dims
  rcases hv with ⟨h1, h2⟩ | ⟨j, k, h1, h2, h3, h4⟩ | ⟨i, l, h1, h2, h3, h4⟩
  · obtain ⟨a, c⟩ := gn_turn h h1
    exact ⟨a, by rw [c, h2], by omega⟩
  · obtain ⟨a, c⟩ := gn_swap h h1 h2
    rw [h3]
    exact ⟨a, by rw [c, h4], by omega⟩
  · have hf := h.fq h1
    have hb : blk z (zF z i) = some i := (blk_some h).mpr ⟨h1, rfl, by rw [h2]; rfl⟩
    obtain ⟨a, c⟩ := gn_flip (z := z) (s := zF z i) (by omega)
    rw [h3]
    exact ⟨by rw [a, hb]; rfl, by rw [c i l hb h2, h4], by omega⟩
/-! best changes, one after the other -/
theorem imp_pos (f : Nat) {z : ZS} (h : ZOK z) : 0 < erAll z - erAll (impZ f z) ↔ 0 < impN f z := by
  cases f with
  | zero =>
    show 0 < erAll z - erAll z ↔ 0 < 0
    omega
  | succ f =>
    cases hq : bestZ z with
    | none => rw [impZ_none hq, impN_none hq]; omega
    | some q =>
      obtain ⟨n, g⟩ := q
      by_cases hg : 0 < g
      · obtain ⟨d1, d2, d3, d4⟩ := do_gain h (bestZ_g _ hq)
        have d1 : erAll z - erAll (doZ z n) = g := d1
        have d3 : ZOK (doZ z n) := d3
        have := imp_le f d3
        rw [impZ_go hq hg, impN_go hq hg]
        omega
      · rw [impZ_stop hq hg, impN_stop hq hg]; omega
theorem imp_end : ∀ (f : Nat) {z : ZS}, ZOK z → impN f z < f → bG (bestZ (impZ f z)) ≤ 0
  | 0, _, _, hn => absurd hn (Nat.not_lt_zero _)
  | f + 1, z, h, hn => by
    cases hq : bestZ z with
    | none => rw [impZ_none hq, hq]; exact Int.le_refl _
    | some q =>
      obtain ⟨n, g⟩ := q
      by_cases hg : 0 < g
      · obtain ⟨d1, d2, d3, d4⟩ := do_gain h (bestZ_g _ hq)
        rw [impZ_go hq hg]
        rw [impN_go hq hg] at hn
        exact imp_end f d3 (by omega)
      · rw [impZ_stop hq hg, hq]
        show g ≤ 0
        omega
/-! squares and places -/
theorem zS_dbl {g : Nat → Int} : ∀ n, zS g (2 * n) = zS (fun k => g (2 * k) + g (2 * k + 1)) n
  | 0 => rfl
  | n + 1 => by
    show zS g (2 * n) + g (2 * n) + g (2 * n + 1) = zS (fun k => g (2 * k) + g (2 * k + 1)) n + (g (2 * n) + g (2 * n + 1))
    rw [zS_dbl n]; omega
theorem zS_sq {z : ZS} (h : ZOK z) (g : Nat → Int) : zS (fun k => g (zF z k) + g (zO z k)) (zt z) = zS g (zq z) := by
  have hd := h.dims
  have hz : zq z = 2 * zt z := hd.2.2.2.2.2.2.2
  have hp := zS_perm (g := g) (r := fun i => if i % 2 = 0 then zF z (i / 2) else zO z (i / 2)) (n := zq z) (fun k hk => by
    show (if k % 2 = 0 then zF z (k / 2) else zO z (k / 2)) < zq z
    split
    · exact h.fq (by omega)
    · exact h.oq (by omega)) (fun s hs => by
    obtain ⟨k, hk, e⟩ := h.cov hs
    rcases e with e | e
    · refine ⟨2 * k, by omega, ?_⟩
      show (if 2 * k % 2 = 0 then zF z (2 * k / 2) else zO z (2 * k / 2)) = s
      rw [if_pos (by omega), show 2 * k / 2 = k by omega]; exact e
    · refine ⟨2 * k + 1, by omega, ?_⟩
      show (if (2 * k + 1) % 2 = 0 then zF z ((2 * k + 1) / 2) else zO z ((2 * k + 1) / 2)) = s
      rw [if_neg (by omega), show (2 * k + 1) / 2 = k by omega]; exact e) (fun i j hi hj e => by
    have e : (if i % 2 = 0 then zF z (i / 2) else zO z (i / 2)) = (if j % 2 = 0 then zF z (j / 2) else zO z (j / 2)) := e
    have hi2 : i / 2 < zt z := by omega
    have hj2 : j / 2 < zt z := by omega
    by_cases a : i % 2 = 0 <;> by_cases c : j % 2 = 0
    · rw [if_pos a, if_pos c] at e; have := h.finj hi2 hj2 e; omega
    · rw [if_pos a, if_neg c] at e; exact absurd e (h.fno hi2 hj2)
    · rw [if_neg a, if_pos c] at e; exact absurd e.symm (h.fno hj2 hi2)
    · rw [if_neg a, if_neg c] at e; have := h.oinj hi2 hj2 e; omega)
  rw [← hp, hz, zS_dbl]
  refine (zS_cong (fun k hk => ?_)).symm
  show (g (if 2 * k % 2 = 0 then zF z (2 * k / 2) else zO z (2 * k / 2)) + g (if (2 * k + 1) % 2 = 0 then zF z ((2 * k + 1) / 2) else zO z ((2 * k + 1) / 2))) = _
  rw [if_pos (by omega), if_neg (by omega), show 2 * k / 2 = k by omega, show (2 * k + 1) / 2 = k by omega]
theorem pip_F {z : ZS} (h : ZOK z) {k : Nat} (hk : k < zt z) : pipZ z (zF z k) = if zU z k = 0 then plo (zn z) (zT z k) else phi (zn z) (zT z k) := by
  unfold pipZ
  rw [plZ_eq h hk (Or.inl rfl)]
  by_cases e : zU z k = 0
  · rw [if_pos e, if_neg (by simp [e])]
  · rw [if_neg e, if_pos (by simp [e])]
theorem pip_O {z : ZS} (h : ZOK z) {k : Nat} (hk : k < zt z) : pipZ z (zO z k) = if zU z k = 0 then phi (zn z) (zT z k) else plo (zn z) (zT z k) := by
  have hne := h.fno hk hk
  unfold pipZ
  rw [plZ_eq h hk (Or.inr rfl)]
  by_cases e : zU z k = 0
  · rw [if_pos e, if_pos (by simp [e, hne])]
  · rw [if_neg e, if_neg (by simp [e, hne])]
theorem pip_le {z : ZS} (h : ZOK z) {s : Nat} (hs : s < zq z) : pipZ z s ≤ zn z := by
  obtain ⟨k, hk, e⟩ := h.cov hs
  have := h.pips (h.t hk)
  rcases e with e | e
  · rw [← e, pip_F h hk]; split <;> omega
  · rw [← e, pip_O h hk]; split <;> omega
def sqv (z : ZS) (s : Nat) : Int := sqd (zG z s) (sh (zn z) (pipZ z s))
theorem er_sq {z : ZS} (h : ZOK z) {k : Nat} (hk : k < zt z) : er z k = sqv z (zF z k) + sqv z (zO z k) := by
  unfold sqv
  rw [pip_F h hk, pip_O h hk]
  show e4 z _ _ _ _ = _
  unfold e4
  split <;> rfl
theorem erAll_sq {z : ZS} (h : ZOK z) : erAll z = zS (sqv z) (zq z) := by
  rw [← zS_sq h]
  exact zS_cong (fun k hk => er_sq h hk)
theorem zS_mono {f g : Nat → Int} : ∀ n, (∀ i, i < n → f i ≤ g i) → zS f n ≤ zS g n
  | 0, _ => Int.le_refl _
  | n + 1, h => by
    have h1 := zS_mono n (fun i hi => h i (by omega))
    have h2 := h n (by omega)
    show zS f n + f n ≤ zS g n + g n
    omega
theorem lsq_min {z : ZS} {s p : Nat} : ∀ n, p ≤ n → lsq z s n ≤ sqd (zG z s) (sh (zn z) p)
  | 0, h => by
    have e : p = 0 := by omega
    subst e
    exact Int.le_refl _
  | n + 1, h => by
    unfold lsq
    by_cases e : p = n + 1
    · subst e
      split <;> omega
    · have := lsq_min (z := z) (s := s) n (show p ≤ n by omega)
      split <;> omega
theorem least_le {z : ZS} (h : ZOK z) : leastZ z ≤ erAll z := by
  rw [erAll_sq h]
  exact zS_mono _ (fun s hs => lsq_min _ (pip_le h hs))
/-! the places by their errors -/
theorem er_max (f : Nat → Int) : ∀ n, 0 < n → ∃ k, k < n ∧ ∀ i, i < n → f i < f k ∨ f i = f k ∧ k ≤ i
  | 0, h => absurd h (Nat.not_lt_zero _)
  | n + 1, _ => by
    by_cases hn : n = 0
    · subst hn
      exact ⟨0, by omega, fun i hi => by have e : i = 0 := (by omega); subst e; exact Or.inr ⟨rfl, Nat.le_refl _⟩⟩
    · obtain ⟨k, hk, h⟩ := er_max f n (by omega)
      by_cases c : f k < f n
      · refine ⟨n, by omega, fun i hi => ?_⟩
        by_cases e : i = n
        · subst e; exact Or.inr ⟨rfl, Nat.le_refl _⟩
        · have := h i (by omega); exact Or.inl (by omega)
      · refine ⟨k, by omega, fun i hi => ?_⟩
        by_cases e : i = n
        · subst e
          by_cases q : f i = f k
          · exact Or.inr ⟨q, by omega⟩
          · exact Or.inl (by omega)
        · exact h i (by omega)
theorem er_min (f : Nat → Int) : ∀ n, 0 < n → ∃ k, k < n ∧ ∀ i, i < n → f k < f i ∨ f i = f k ∧ i ≤ k
  | 0, h => absurd h (Nat.not_lt_zero _)
  | n + 1, _ => by
    by_cases hn : n = 0
    · subst hn
      exact ⟨0, by omega, fun i hi => Or.inr ⟨by have e : i = 0 := (by omega); subst e; rfl, by omega⟩⟩
    · obtain ⟨k, hk, h⟩ := er_min f n (by omega)
      by_cases c : f n ≤ f k
      · refine ⟨n, by omega, fun i hi => ?_⟩
        by_cases e : i = n
        · subst e; exact Or.inr ⟨rfl, Nat.le_refl _⟩
        · have := h i (by omega)
          by_cases q : f i = f n
          · exact Or.inr ⟨q, by omega⟩
          · exact Or.inl (by omega)
      · refine ⟨k, by omega, fun i hi => ?_⟩
        by_cases e : i = n
        · subst e; exact Or.inl (by omega)
        · exact h i (by omega)
theorem zN_false {p : Nat → Bool} : ∀ n, (∀ i, i < n → p i = false) → zN p n = 0
  | 0, _ => rfl
  | n + 1, h => by
    have h1 := zN_false n (fun i hi => h i (by omega))
    have h2 := h n (by omega)
    unfold zN
    rw [h1, h2]; rfl
theorem zN_true {p : Nat → Bool} : ∀ n, (∀ i, i < n → p i = true) → zN p n = n
  | 0, _ => rfl
  | n + 1, h => by
    have h1 := zN_true n (fun i hi => h i (by omega))
    have h2 := h n (by omega)
    unfold zN
    rw [h1, h2]; rfl
theorem zN_zero {p : Nat → Bool} : ∀ n, zN p n = 0 → ∀ i, i < n → p i = false
  | 0, _, i, hi => absurd hi (Nat.not_lt_zero _)
  | n + 1, h, i, hi => by
    have h : zN p n + (if p n then 1 else 0) = 0 := h
    by_cases e : i = n
    · subst e
      cases hp : p i with
      | false => rfl
      | true => rw [hp] at h; simp at h
    · exact zN_zero n (by omega) i (by omega)
theorem zN_miss {p : Nat → Bool} {i j n : Nat} (hi : i < n) (hj : j < n) (hij : i ≠ j) (h1 : p i = false) (h2 : p j = false) : zN p n + 2 ≤ n := by
  have a1 := zN_one (p := fun k => if k = i then true else p k) (q := p) (k := i) n hi (fun k hk hki => if_neg hki) (if_pos rfl) h1
  have a2 := zN_one (p := fun k => if k = j then true else if k = i then true else p k) (q := fun k => if k = i then true else p k) (k := j) n hj (fun k hk hkj => if_neg hkj) (if_pos rfl) (by show (if j = i then true else p j) = false; rw [if_neg (Ne.symm hij)]; exact h2)
  have a3 := zN_le (fun k => if k = j then true else if k = i then true else p k) n
  omega
theorem wor_ex {z : ZS} {r k : Nat} (hk : k < zt z) (hr : rkZ z k (zt z) = r) : ∃ m, worZ z r = some m ∧ m < zt z ∧ rkZ z m (zt z) = r := by
  cases hq : worZ z r with
  | none =>
    have h1 := List.find?_eq_none.mp hq k (List.mem_range.mpr hk)
    rw [decide_eq_true hr] at h1
    exact absurd rfl h1
  | some m =>
    have h1 := List.find?_some hq
    have h2 := List.mem_range.mp (List.mem_of_find?_eq_some hq)
    exact ⟨m, rfl, h2, of_decide_eq_true h1⟩
theorem wor_first {z : ZS} (h : ZOK z) : ∃ m, worZ z 0 = some m ∧ m < zt z ∧ ∀ i, i < zt z → er z i ≤ er z m := by
  have hd := h.dims
  obtain ⟨k, hk, hm⟩ := er_max (er z) (zt z) (by omega)
  obtain ⟨m, h1, h2, h3⟩ := wor_ex (r := 0) hk (zN_false _ (fun i hi => by
    have := hm i hi
    rw [Bool.or_eq_false_iff, Bool.and_eq_false_iff]
    refine ⟨decide_eq_false (by omega), ?_⟩
    by_cases e : er z i = er z k
    · exact Or.inr (decide_eq_false (by omega))
    · exact Or.inl (decide_eq_false e)))
  refine ⟨m, h1, h2, fun i hi => ?_⟩
  have h4 := zN_zero _ h3 i hi
  rw [Bool.or_eq_false_iff] at h4
  have h5 := of_decide_eq_false h4.1
  omega
theorem wor_last {z : ZS} (h : ZOK z) : ∃ m, worZ z (zt z - 1) = some m ∧ m < zt z ∧ ∀ i, i < zt z → er z m ≤ er z i := by
  have hd := h.dims
  obtain ⟨k, hk, hm⟩ := er_min (er z) (zt z) (by omega)
  have self : ∀ k, (decide (er z k < er z k) || (decide (er z k = er z k) && decide (k < k))) = false := fun k => by simp
  have hr : rkZ z k (zt z) = zt z - 1 := by
    have a1 := zN_one (p := fun _ => true) (q := fun i => decide (er z k < er z i) || (decide (er z i = er z k) && decide (i < k))) (k := k) (zt z) hk (fun i hi hik => by
      have := hm i hi
      show true = _
      symm
      rw [Bool.or_eq_true]
      rcases this with c | ⟨c1, c2⟩
      · exact Or.inl (decide_eq_true c)
      · refine Or.inr ?_
        rw [Bool.and_eq_true]
        exact ⟨decide_eq_true c1, decide_eq_true (by omega)⟩) rfl (self k)
    have a2 := zN_true (p := fun _ => true) (zt z) (fun _ _ => rfl)
    unfold rkZ
    omega
  obtain ⟨m, h1, h2, h3⟩ := wor_ex (r := zt z - 1) hk hr
  refine ⟨m, h1, h2, fun i hi => ?_⟩
  by_cases e : i = m
  · rw [e]; exact Int.le_refl _
  · cases hp : (decide (er z m < er z i) || (decide (er z i = er z m) && decide (i < m))) with
    | false =>
      have a3 := zN_miss (p := fun i => decide (er z m < er z i) || (decide (er z i = er z m) && decide (i < m))) hi h2 e hp (self m)
      unfold rkZ at h3
      omega
    | true =>
      rw [Bool.or_eq_true, Bool.and_eq_true] at hp
      rcases hp with c | ⟨c, -⟩
      · have := of_decide_eq_true c; omega
      · have := of_decide_eq_true c; omega
theorem zS_up {f : Nat → Int} {c : Int} : ∀ n, (∀ i, i < n → f i ≤ c) → zS f n ≤ c * n
  | 0, _ => by show (0 : Int) ≤ c * 0; omega
  | n + 1, h => by
    have h1 := zS_up n (fun i hi => h i (by omega))
    have h2 := h n (by omega)
    show zS f n + f n ≤ c * ((n + 1 : Nat) : Int)
    rw [show (((n + 1 : Nat)) : Int) = (n : Int) + 1 from rfl, Int.mul_add]
    omega
theorem zS_dn {f : Nat → Int} {c : Int} : ∀ n, (∀ i, i < n → c ≤ f i) → c * n ≤ zS f n
  | 0, _ => by show c * 0 ≤ (0 : Int); omega
  | n + 1, h => by
    have h1 := zS_dn n (fun i hi => h i (by omega))
    have h2 := h n (by omega)
    show c * ((n + 1 : Nat) : Int) ≤ zS f n + f n
    rw [show (((n + 1 : Nat)) : Int) = (n : Int) + 1 from rfl, Int.mul_add]
    omega
/-! all tiles lie somewhere, each number of pips as often -/
theorem inj_surj : ∀ (n : Nat) (r : Nat → Nat), (∀ k, k < n → r k < n) → (∀ i j, i < n → j < n → r i = r j → i = j) → ∀ t, t < n → ∃ j, j < n ∧ r j = t
  | 0, _, _, _, t, ht => absurd ht (Nat.not_lt_zero _)
  | n + 1, r, h1, h2, t, ht => by
    have hn := h1 n (by omega)
    by_cases c : r n = n
    · by_cases e : t = n
      · exact ⟨n, by omega, by rw [c, e]⟩
      · obtain ⟨j, hj, ej⟩ := inj_surj n r (fun k hk => by
          have a := h1 k (by omega)
          have b : r k ≠ n := fun q => by have := h2 k n (by omega) (by omega) (by rw [q, c]); omega
          omega) (fun i j hi hj => h2 i j (by omega) (by omega)) t (by omega)
        exact ⟨j, by omega, ej⟩
    · have ih := inj_surj n (fun k => if r k = n then r n else r k) (fun k hk => by
        show (if r k = n then r n else r k) < n
        have a := h1 k (by omega)
        split <;> omega) (fun i j hi hj e => by
        have e : (if r i = n then r n else r i) = (if r j = n then r n else r j) := e
        have q1 : r i ≠ r n := fun q => by have := h2 i n (by omega) (by omega) q; omega
        have q2 : r j ≠ r n := fun q => by have := h2 j n (by omega) (by omega) q; omega
        split at e <;> split at e
        · exact h2 i j (by omega) (by omega) (by omega)
        · exact absurd e.symm q2
        · exact absurd e q1
        · exact h2 i j (by omega) (by omega) e)
      by_cases e : t = n
      · obtain ⟨j, hj, ej⟩ := ih (r n) (by omega)
        have ej : (if r j = n then r n else r j) = r n := ej
        split at ej
        · rename_i q; exact ⟨j, by omega, by rw [q, e]⟩
        · have := h2 j n (by omega) (by omega) ej; omega
      · obtain ⟨j, hj, ej⟩ := ih t (by omega)
        have ej : (if r j = n then r n else r j) = t := ej
        split at ej
        · exact ⟨n, by omega, ej⟩
        · exact ⟨j, by omega, ej⟩
theorem tile_ex {z : ZS} (h : ZOK z) (ht : TOK z) {t : Nat} (hl : t < zt z) : ∃ k, k < zt z ∧ zT z k = t := inj_surj (zt z) (zT z) (fun k hk => h.t hk) ht t hl
theorem wh_eq {z : ZS} (ht : TOK z) {k : Nat} (hk : k < zt z) : whZ z (zT z k) = some k := by
  unfold whZ
  refine find_first hk (by simp) (fun j hj => ?_)
  refine decide_eq_false (fun e => ?_)
  have := ht j k (by omega) hk e
  omega
/-- how often the pips p lie on the first n places -/
def cP (z : ZS) (p : Nat) : Nat → Nat
  | 0 => 0
  | n + 1 => cP z p n + ((if pipZ z (zF z n) = p then 1 else 0) + (if pipZ z (zO z n) = p then 1 else 0))
def tcP (n p t : Nat) : Nat := (if plo n t = p then 1 else 0) + (if phi n t = p then 1 else 0)
theorem cP_zS {z : ZS} (h : ZOK z) {p : Nat} : ∀ n, n ≤ zt z → (cP z p n : Int) = zS (fun k => (tcP (zn z) p (zT z k) : Int)) n
  | 0, _ => rfl
  | n + 1, hn => by
    have ih := cP_zS h (p := p) n (by omega)
    have hk : n < zt z := by omega
    have e : (if pipZ z (zF z n) = p then 1 else 0) + (if pipZ z (zO z n) = p then 1 else 0) = tcP (zn z) p (zT z n) := by
      unfold tcP
      rw [pip_F h hk, pip_O h hk]
      split
      · rfl
      · omega
    show ((cP z p n + ((if pipZ z (zF z n) = p then 1 else 0) + (if pipZ z (zO z n) = p then 1 else 0)) : Nat) : Int) = zS (fun k => (tcP (zn z) p (zT z k) : Int)) n + (tcP (zn z) p (zT z n) : Int)
    rw [e, ← ih]
    rfl
def tS (f : Nat → Nat) : Nat → Nat
  | 0 => 0
  | n + 1 => tS f n + f n
theorem tS_zS (f : Nat → Nat) : ∀ n, (tS f n : Int) = zS (fun k => (f k : Int)) n
  | 0 => rfl
  | n + 1 => by
    show ((tS f n + f n : Nat) : Int) = zS (fun k => (f k : Int)) n + (f n : Int)
    rw [← tS_zS f n]; rfl
def chC (n m p : Nat) : Bool := !(decide (2 ≤ n) && (decide (1 ≤ m) && decide (p ≤ n))) || decide (tS (tcP n p) ((n + 2) * ((n + 1) * m) / 2) = (n + 2) * m)
theorem chC_all : ∀ n, n < 7 → ∀ m, m < 3 → ∀ p, p < 7 → chC n m p = true := by decide +kernel
theorem tcP_all (n : Nat) (h1 : n < 7) (m : Nat) (h2 : m < 3) (p : Nat) (h3 : p < 7) (h4 : 2 ≤ n) (h5 : 1 ≤ m) (h6 : p ≤ n) : tS (tcP n p) ((n + 2) * ((n + 1) * m) / 2) = (n + 2) * m := by
  have h := chC_all n h1 m h2 p h3
  unfold chC at h
  rw [decide_eq_true h4, decide_eq_true h5, decide_eq_true h6] at h
  exact of_decide_eq_true h
theorem cP_all {z : ZS} (h : ZOK z) (ht : TOK z) {p : Nat} (hp : p ≤ zn z) : cP z p (zt z) = zc z * zs z := by
  have h1 := cP_zS h (p := p) (zt z) (Nat.le_refl _)
  rw [zS_perm (g := fun t => (tcP (zn z) p t : Int)) (r := zT z) (fun k hk => h.t hk) (fun t hl => tile_ex h ht hl) ht, ← tS_zS] at h1
  have h2 := tcP_all (zn z) (by have := h.n; omega) (zs z) (by have := h.n; omega) p (by have := h.n; omega) h.n.1 h.n.2.2.1 hp
  have e : zt z = (zn z + 2) * ((zn z + 1) * zs z) / 2 := rfl
  rw [e] at h1 ⊢
  rw [h2] at h1
  show _ = (zn z + 2) * zs z
  omega
/-- the tiles of the first n places, a bit for each -/
def mkZ (z : ZS) : Nat → Int64
  | 0 => 0
  | n + 1 => mkZ z n ||| ((1 : Int64) <<< ((nI (zT z n)).toInt64 &&& 63))
theorem one_sh : ∀ t, t < 57 → ((1 : Int64) <<< ((nI t).toInt64 &&& 63)).toBitVec = 1#64 <<< t := by decide +kernel
theorem one_bit : ∀ t, t < 57 → ∀ i, i < 64 → (1#64 <<< t).getLsbD i = decide (i = t) := by decide +kernel
theorem all_bit : ∀ t, t < 57 → ∀ i, i < 64 → (((1 : Int64) <<< ((nI t).toInt64 &&& 63)) - 1).toBitVec.getLsbD i = decide (i < t) := by decide +kernel
theorem mk_bit {z : ZS} (h : ZOK z) {i : Nat} (hi : i < 64) : ∀ n, n ≤ zt z → ((mkZ z n).toBitVec.getLsbD i = true ↔ ∃ k, k < n ∧ zT z k = i)
  | 0, _ => by
    constructor
    · intro q
      have e : (mkZ z 0).toBitVec = 0#64 := rfl
      rw [e, BitVec.getLsbD_zero] at q
      cases q
    · rintro ⟨k, hk, -⟩; exact absurd hk (Nat.not_lt_zero _)
  | n + 1, hn => by
    have hd := h.dims
    have ih := mk_bit h hi n (by omega)
    have htn := h.t (show n < zt z by omega)
    have e : (mkZ z (n + 1)).toBitVec = (mkZ z n).toBitVec ||| (1#64 <<< zT z n) := by
      rw [← one_sh (zT z n) (by omega)]; rfl
    rw [e, BitVec.getLsbD_or, Bool.or_eq_true, ih, one_bit (zT z n) (by omega) i hi, decide_eq_true_eq]
    constructor
    · rintro (⟨k, hk, q⟩ | q)
      · exact ⟨k, by omega, q⟩
      · exact ⟨n, by omega, q.symm⟩
    · rintro ⟨k, hk, q⟩
      by_cases c : k = n
      · subst c; exact Or.inr q.symm
      · exact Or.inl ⟨k, by omega, q⟩
theorem mk_all {z : ZS} (h : ZOK z) (ht : TOK z) : mkZ z (zt z) = ((1 : Int64) <<< ((nI (zt z)).toInt64 &&& 63)) - 1 := by
  have hd := h.dims
  apply Int64.toBitVec_inj.mp
  apply BitVec.eq_of_getLsbD_eq
  intro i hi
  rw [all_bit (zt z) (by omega) i hi]
  have h1 := mk_bit h hi (zt z) (Nat.le_refl _)
  by_cases c : i < zt z
  · rw [decide_eq_true c]
    exact h1.mpr (tile_ex h ht c)
  · rw [decide_eq_false c]
    cases hb : (mkZ z (zt z)).toBitVec.getLsbD i with
    | false => rfl
    | true =>
      obtain ⟨k, hk, e⟩ := h1.mp hb
      have := h.t hk
      omega
