/-! what a change gains: the difference of the errors of all -/
theorem zS_diff1 {f g : Nat → Int} {k : Nat} : ∀ n, k < n → (∀ i, i < n → i ≠ k → f i = g i) → zS f n - zS g n = f k - g k
  | 0, h, _ => absurd h (Nat.not_lt_zero _)
  | n + 1, h, hc => by
    show zS f n + f n - (zS g n + g n) = f k - g k
    by_cases e : k = n
    · subst e
      rw [zS_cong (f := f) (g := g) (fun i hi => hc i (by omega) (by omega))]
      omega
    · have h1 := zS_diff1 n (by omega) (fun i hi hk => hc i (by omega) hk)
      have h2 := hc n (by omega) (by omega)
      omega
theorem zS_diff2 {f g : Nat → Int} {j k n : Nat} (hj : j < n) (hk : k < n) (hjk : j ≠ k) (hc : ∀ i, i < n → i ≠ j → i ≠ k → f i = g i) : zS f n - zS g n = f j - g j + (f k - g k) := by
  have h1 := zS_diff1 (f := f) (g := fun i => if i = j then g j else f i) (k := j) n hj (fun i hi hij => (if_neg hij).symm)
  have h2 := zS_diff1 (f := fun i => if i = j then g j else f i) (g := g) (k := k) n hk (fun i hi hik => by
    by_cases e : i = j
    · rw [e]; exact if_pos rfl
    · show (if i = j then g j else f i) = g i
      rw [if_neg e]; exact hc i hi e hik)
  rw [if_pos rfl] at h1
  rw [if_neg (Ne.symm hjk)] at h2
  omega
theorem zS_add {f g : Nat → Int} : ∀ n, zS (fun i => f i + g i) n = zS f n + zS g n
  | 0 => rfl
  | n + 1 => by
    have h := zS_add (f := f) (g := g) n
    show zS (fun i => f i + g i) n + (f n + g n) = zS f n + f n + (zS g n + g n)
    omega
theorem zS_zero : ∀ n, zS (fun _ => 0) n = 0
  | 0 => rfl
  | n + 1 => by
    have h := zS_zero n
    show zS (fun _ => 0) n + 0 = 0
    omega
theorem zS_swap {h : Nat → Nat → Int} {m : Nat} : ∀ n, zS (fun i => zS (fun j => h i j) m) n = zS (fun j => zS (fun i => h i j) n) m
  | 0 => (zS_zero m).symm
  | n + 1 => by
    show zS (fun i => zS (fun j => h i j) m) n + zS (fun j => h n j) m = zS (fun j => zS (fun i => h i j) n + h n j) m
    rw [zS_add, zS_swap n]
theorem zS_single {g : Nat → Int} {m : Nat} : ∀ n, m < n → zS (fun j => if m = j then g j else 0) n = g m
  | 0, h => absurd h (Nat.not_lt_zero _)
  | n + 1, h => by
    show zS (fun j => if m = j then g j else 0) n + (if m = n then g n else 0) = g m
    by_cases e : m = n
    · subst e
      rw [if_pos rfl, zS_cong (g := fun _ => 0) (fun j hj => if_neg (by omega)), zS_zero]
      omega
    · rw [if_neg e, zS_single n (by omega)]
      omega
theorem zS_perm {g : Nat → Int} {r : Nat → Nat} {n : Nat} (h1 : ∀ k, k < n → r k < n) (h2 : ∀ k, k < n → ∃ j, j < n ∧ r j = k) (h3 : ∀ i j, i < n → j < n → r i = r j → i = j) : zS (fun i => g (r i)) n = zS g n := by
  have a1 : zS (fun i => g (r i)) n = zS (fun i => zS (fun j => if r i = j then g j else 0) n) n := zS_cong (fun i hi => (zS_single n (h1 i hi)).symm)
  rw [a1, zS_swap]
  refine zS_cong (fun j hj => ?_)
  obtain ⟨i0, hi0, e⟩ := h2 j hj
  have a2 : zS (fun i => if r i = j then g j else 0) n = zS (fun i => if i0 = i then (fun _ => g j) i else 0) n := zS_cong (fun i hi => by
    by_cases q : i0 = i
    · subst q; rw [if_pos e, if_pos rfl]
    · rw [if_neg q, if_neg (fun q2 => q (h3 i0 i hi0 hi (by rw [e, q2])))])
  rw [a2, zS_single (g := fun _ => g j) n hi0]
theorem turn_gain {z : ZS} {k : Nat} (hk : k < zt z) : erAll z - erAll (turnZ z k) = tgZ z k := by
  have e : erAll (turnZ z k) = zS (er (turnZ z k)) (zt z) := rfl
  rw [e]
  show zS (er z) (zt z) - _ = er z k - ek z k (1 - zU z k)
  have e2 : er (turnZ z k) k = ek z k (1 - zU z k) := by
    show ek z k (ups (zU z) k (1 - zU z k) k) = _
    rw [ups_same]
  rw [zS_diff1 (k := k) (zt z) hk (fun i hi hik => by
    show _ = ek z i (ups (zU z) k (1 - zU z k) i)
    rw [ups_ne hik]; rfl), e2]
theorem swap_gain {z : ZS} {j k : Nat} (hj : j < zt z) (hk : k < zt z) (hjk : j ≠ k) : erAll z - erAll (swapZ z j k) = sgZ z j k := by
  have e : erAll (swapZ z j k) = zS (er (swapZ z j k)) (zt z) := rfl
  have q : ∀ i, er (swapZ z j k) i = e4 z (zF z i) (zO z i) (ups (ups (zT z) j (zT z k)) k (zT z j) i) (ups (ups (zU z) j (bet z (zF z j) (zO z j) (ups (ups (zT z) j (zT z k)) k (zT z j) j))) k (bet z (zF z k) (zO z k) (ups (ups (zT z) j (zT z k)) k (zT z j) k)) i) := fun i => rfl
  have e2 : er (swapZ z j k) j = lw z (zF z j) (zO z j) (zT z k) := by
    rw [q, ups_ne hjk, ups_same, ups_ne hjk, ups_same, e4_bet]
  have e3 : er (swapZ z j k) k = lw z (zF z k) (zO z k) (zT z j) := by
    rw [q, ups_same, ups_same, e4_bet]
  rw [e]
  show zS (er z) (zt z) - _ = er z j + er z k - lw z (zF z j) (zO z j) (zT z k) - lw z (zF z k) (zO z k) (zT z j)
  rw [zS_diff2 (j := j) (k := k) hj hk hjk (fun i hi h1 h2 => by rw [q, ups_ne h2, ups_ne h1, ups_ne h2, ups_ne h1]; rfl), e2, e3]
  omega
theorem flip_gain {z : ZS} (h : ZOK z) {k l : Nat} (hk : k < zt z) (hp : part z k = some l) : erAll z - erAll (flipZ z k l) = fgZ z k l := by
  have hl := part_lt h hp
  obtain ⟨g1, g2, g3, hlk⟩ := part_geo h hk hp
  obtain ⟨r, hr, -⟩ := flipZ_ren h hk hp
  obtain ⟨r1, r2, r3, r4, r5, r6, r7, r8⟩ := hr
  have ez : zt (flipZ z k l) = zt z := zt_same r1 r2
  have e : erAll (flipZ z k l) = zS (er (flipZ z k l)) (zt z) := by show zS _ (zt (flipZ z k l)) = _; rw [ez]
  have q0 : ∀ i, i < zt z → er (flipZ z k l) i = er (layW (layW (fl1 z k l) k) l) (r i) := by
    intro i hi
    have q8 := r8 i hi
    show e4 (naZ _ l) (zF (naZ (layW (layW (fl1 z k l) k) l) l) i) (zO (naZ (layW (layW (fl1 z k l) k) l) l) i) (zT (naZ (layW (layW (fl1 z k l) k) l) l) i) (zU (naZ (layW (layW (fl1 z k l) k) l) l) i) = _
    rw [q8.1, q8.2.1, q8.2.2.1, q8.2.2.2.1]
    show e4 _ _ _ _ _ = e4 _ _ _ _ _
    unfold e4 ha hb
    rw [r1, r4, r4]
  have e9 : erAll (flipZ z k l) = zS (er (layW (layW (fl1 z k l) k) l)) (zt z) := by
    rw [e, zS_cong q0]
    exact zS_perm r5 r6 r7
  have q : ∀ i, er (layW (layW (fl1 z k l) k) l) i = e4 z (zF (fl1 z k l) i) (zO (fl1 z k l) i) (zT z i) (ups (ups (zU z) k (bet z (zF (fl1 z k l) k) (zO (fl1 z k l) k) (zT z k))) l (bet z (zF (fl1 z k l) l) (zO (fl1 z k l) l) (zT z l)) i) := fun i => rfl
  have e2 : er (layW (layW (fl1 z k l) k) l) k = lw z (zF z k) (zF z k + stp z k) (zT z k) := by
    rw [q, ups_ne (Ne.symm hlk), ups_same, e4_bet, fl1_F, fl1_O, if_neg (Ne.symm hlk), if_pos rfl]
  have e3 : er (layW (layW (fl1 z k l) k) l) l = lw z (fst2 z k) (fst2 z k + stp z k) (zT z l) := by
    rw [q, ups_same, e4_bet, fl1_F, fl1_O, if_pos rfl, if_neg hlk, g3]
  rw [e9]
  show zS (er z) (zt z) - _ = er z k + er z l - lw z (zF z k) (zF z k + stp z k) (zT z k) - lw z (fst2 z k) (fst2 z k + stp z k) (zT z l)
  rw [zS_diff2 (j := k) (k := l) hk hl (Ne.symm hlk) (fun i hi h1 h2 => by rw [q, ups_ne h2, ups_ne h1, fl1_F, fl1_O, if_neg h2, if_neg h1]; rfl), e2, e3]
  omega
/-- a change that there is, and its gain -/
def VG (z : ZS) (n : Nat) (g : Int) : Prop := (n < zt z ∧ g = tgZ z n) ∨ (∃ j k, j < k ∧ k < zt z ∧ n = 10000 + 100 * j + k ∧ g = sgZ z j k) ∨ (∃ i l, i < zt z ∧ part z i = some l ∧ n = 20000 + zF z i ∧ g = fgZ z i l)
def okG (z : ZS) (o : Option (Nat × Int)) : Prop := ∀ q, o = some q → VG z q.1 q.2
theorem okG_off {z : ZS} {o : Option (Nat × Int)} {n : Nat} {g : Int} (h : okG z o) (hn : VG z n g) : okG z (offZ o n g) := by
  intro q hq
  unfold offZ at hq
  split at hq
  · cases hq; exact hn
  · split at hq
    · cases hq; exact hn
    · exact h q hq
theorem tuF_g {z : ZS} : ∀ n, n ≤ zt z → okG z (tuF z n)
  | 0, _ => fun q h => by cases h
  | n + 1, hn => by
    unfold tuF
    split
    · exact okG_off (tuF_g n (by omega)) (Or.inl ⟨by omega, rfl⟩)
    · exact tuF_g n (by omega)
theorem swF_g {z : ZS} {j : Nat} {o : Option (Nat × Int)} (ho : okG z o) : ∀ n, n ≤ zt z → okG z (swF z j o n)
  | 0, _ => ho
  | n + 1, hn => by
    unfold swF
    split
    · rename_i hc
      exact okG_off (swF_g ho n (by omega)) (Or.inr (Or.inl ⟨j, n, hc.1, by omega, rfl, rfl⟩))
    · exact swF_g ho n (by omega)
theorem swA_g {z : ZS} {o : Option (Nat × Int)} (ho : okG z o) : ∀ n, n ≤ zt z → okG z (swA z o n)
  | 0, _ => ho
  | n + 1, hn => by
    unfold swA
    split
    · exact swF_g (swA_g ho n (by omega)) _ (Nat.le_refl _)
    · exact swA_g ho n (by omega)
theorem flF_g {z : ZS} {o : Option (Nat × Int)} (ho : okG z o) : ∀ n, n ≤ zt z → okG z (flF z o n)
  | 0, _ => ho
  | n + 1, hn => by
    unfold flF
    split
    · exact flF_g ho n (by omega)
    · rename_i l hp
      split
      · exact okG_off (flF_g ho n (by omega)) (Or.inr (Or.inr ⟨n, l, by omega, hp, rfl, rfl⟩))
      · exact flF_g ho n (by omega)
theorem bestZ_g {z : ZS} : okG z (bestZ z) := flF_g (swA_g (tuF_g _ (Nat.le_refl _)) _ (Nat.le_refl _)) _ (Nat.le_refl _)
theorem naZ_ch {z : ZS} (h : ZOK z) {k l : Nat} (hk : k < zt z) (hp : part z k = some l) : zch (flipZ z k l) = zch z + 1 := by
  obtain ⟨r, hr, -⟩ := flipZ_ren h hk hp
  show zch (naZ _ l) + 1 = zch z + 1
  rw [hr.2.2.1]; rfl
theorem do_gain {z : ZS} (h : ZOK z) {n : Nat} {g : Int} (hv : VG z n g) : erAll z - erAll (doZ z n) = g ∧ zch (doZ z n) = zch z + 1 ∧ ZOK (doZ z n) ∧ (TOK z → TOK (doZ z n)) := by
  have hd := h.dims
  rcases hv with ⟨h1, h2⟩ | ⟨j, k, h1, h2, h3, h4⟩ | ⟨i, l, h1, h2, h3, h4⟩
  · rw [doZ_turn (by omega)]
    exact ⟨by rw [h2]; exact turn_gain h1, rfl, turnZ_ok h n, fun ht => ht⟩
  · rw [h3, doZ_swap (by omega) (by omega)]
    exact ⟨by rw [h4]; exact swap_gain (by omega) h2 (by omega), rfl, swapZ_ok h (by omega) h2, fun ht => exT_tok ht (by omega) h2⟩
  · rw [h3, doZ_flip h h1 h2]
    exact ⟨by rw [h4]; exact flip_gain h h1 h2, naZ_ch h h1 h2, flipZ_ok h h1 h2, fun ht => flipZ_tok h ht h1 h2⟩
/-- how many changes are made -/
def impN : Nat → ZS → Nat
  | 0, _ => 0
  | f + 1, z => match bestZ z with
    | none => 0
    | some q => if 0 < q.2 then impN f (doZ z q.1) + 1 else 0
theorem impN_none {f : Nat} {z : ZS} (h : bestZ z = none) : impN (f + 1) z = 0 := by
  show (match bestZ z with | none => 0 | some q => if 0 < q.2 then impN f (doZ z q.1) + 1 else 0) = 0
  rw [h]
theorem impN_stop {f n : Nat} {g : Int} {z : ZS} (h : bestZ z = some (n, g)) (hg : ¬ 0 < g) : impN (f + 1) z = 0 := by
  show (match bestZ z with | none => 0 | some q => if 0 < q.2 then impN f (doZ z q.1) + 1 else 0) = 0
  rw [h]
  exact if_neg hg
theorem impN_go {f n : Nat} {g : Int} {z : ZS} (h : bestZ z = some (n, g)) (hg : 0 < g) : impN (f + 1) z = impN f (doZ z n) + 1 := by
  show (match bestZ z with | none => 0 | some q => if 0 < q.2 then impN f (doZ z q.1) + 1 else 0) = _
  rw [h]
  exact if_pos hg
theorem impN_le : ∀ (f : Nat) (z : ZS), impN f z ≤ f
  | 0, _ => Nat.le_refl 0
  | f + 1, z => by
    cases hq : bestZ z with
    | none => rw [impN_none hq]; omega
    | some q =>
      obtain ⟨n, g⟩ := q
      by_cases hg : 0 < g
      · have := impN_le f (doZ z n)
        rw [impN_go hq hg]; omega
      · rw [impN_stop hq hg]; omega
theorem imp_ch : ∀ (f : Nat) {z : ZS}, ZOK z → zch (impZ f z) = zch z + nI (impN f z) ∧ ZOK (impZ f z) ∧ (TOK z → TOK (impZ f z))
  | 0, z, h => ⟨by show zch z = zch z + nI 0; rw [show nI 0 = 0 from rfl, Int32.add_zero], h, fun t => t⟩
  | f + 1, z, h => by
    have e0 : zch z = zch z + nI 0 := by rw [show nI 0 = 0 from rfl, Int32.add_zero]
    cases hq : bestZ z with
    | none => rw [impZ_none hq, impN_none hq]; exact ⟨e0, h, fun t => t⟩
    | some q =>
      obtain ⟨n, g⟩ := q
      by_cases hg : 0 < g
      · obtain ⟨d1, d2, d3, d4⟩ := do_gain h (bestZ_g _ hq)
        obtain ⟨i1, i2, i3⟩ := imp_ch f d3
        rw [impZ_go hq hg, impN_go hq hg]
        refine ⟨?_, i2, fun t => i3 (d4 t)⟩
        rw [i1, d2, ← nI_add, Int32.add_assoc, Int32.add_comm (nI (impN f (doZ z n)))]
        rfl
      · rw [impZ_stop hq hg, impN_stop hq hg]; exact ⟨e0, h, fun t => t⟩
