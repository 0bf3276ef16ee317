/-! texts: a letter's kinds of digits, the first wrong place, what the commands do -/
def cmK (c : Nat) : Option (List Nat) :=
  if c = 112 then some [120, 89, 121, 100, 100] else if c = 102 then some [100, 100, 100, 100] else if c = 116 then some [75, 107] else if c = 115 then some [75, 107, 75, 107]
  else if c = 98 then some [120, 89, 121] else if c = 104 then some [75, 107] else if c = 108 then some [] else if c = 105 then some [67, 99] else none
def dg (n : Nat) (f : Nat → Nat) (i : Nat) : Nat := (dgT n f i).toNat
def fw (n : Nat) (f : Nat → Nat) : List Nat → Nat → Option Nat
  | [], _ => none
  | c :: cs, p => if suZ c (dgT n f p) (dg n f (p - 1)) then fw n f cs (p + 1) else some p
def feL (n : Nat) (f : Nat → Nat) : Nat → Nat → Option Nat
  | 0, _ => none
  | fu + 1, p => if p < n then (match cmK (f p) with
    | none => some p
    | some ks => match fw n f ks (p + 1) with
      | some w => some w
      | none => feL n f fu (p + 1 + ks.length)) else none
def feZ (n : Nat) (f : Nat → Nat) : Option Nat := if chT n f 0 = 68 then (match fw n f [110, 115] 1 with
  | some w => some w
  | none => feL n f 120 3) else some 0
def exL (n : Nat) (f : Nat → Nat) : Nat → Nat → ZS → Nat → ZS × Nat
  | 0, _, z, o => (z, o)
  | fu + 1, p, z, o => if p < n then exL n f fu (p + 1 + cmL (f p)) (cmdZ z (f p) (fun i => dg n f (p + i))).2 (o + if (cmdZ z (f p) (fun i => dg n f (p + i))).1 then 0 else 1) else (z, o)
/-- the portrait that a text is, and how many commands are left out -/
def txZ (n : Nat) (f : Nat → Nat) : ZS × Nat := exL n f 120 3 (startZ (dg n f 1) (dg n f 2)) 0
theorem cmK_L {c : Nat} {ks : List Nat} (h : cmK c = some ks) : cmL c = ks.length ∧ (ks = [] → c = 108) ∧ 98 ≤ c ∧ c ≤ 116 := by
  unfold cmK at h
  unfold cmL
  split at h
  · cases h; subst c; decide
  split at h
  · cases h; subst c; decide
  split at h
  · cases h; subst c; decide
  split at h
  · cases h; subst c; decide
  split at h
  · cases h; subst c; decide
  split at h
  · cases h; subst c; decide
  split at h
  · cases h; subst c; decide
  split at h
  · cases h; subst c; decide
  · cases h
theorem suZ_dig {c v : Nat} {g : Int} (h : suZ c g v = true) : 0 ≤ g ∧ g ≤ 9 := by
  unfold suZ at h
  rw [Bool.and_eq_true] at h
  exact of_decide_eq_true h.1
theorem fw_none {n : Nat} {f : Nat → Nat} : ∀ {ks : List Nat} {p : Nat}, fw n f ks p = none → ∀ i, i < ks.length → dgT n f (p + i) = (dg n f (p + i) : Int) ∧ dg n f (p + i) ≤ 9 ∧ p + i < n
  | [], _, _, i, hi => absurd hi (Nat.not_lt_zero _)
  | c :: cs, p, h, i, hi => by
    unfold fw at h
    split at h
    · rename_i hs
      match i with
      | 0 =>
        obtain ⟨h1, h2⟩ := suZ_dig hs
        refine ⟨(Int.toNat_of_nonneg h1).symm, by show (dgT n f p).toNat ≤ 9; omega, ?_⟩
        refine Classical.byContradiction (fun q => ?_)
        have q : ¬ p < n := q
        unfold dgT chT at h1
        rw [if_neg q] at h1
        omega
      | i + 1 =>
        have := fw_none h i (by simpa using hi)
        rw [show p + (i + 1) = p + 1 + i by omega]
        exact this
    · cases h
theorem fw_append {n : Nat} {f : Nat → Nat} : ∀ (as bs : List Nat) (p : Nat), fw n f (as ++ bs) p = match fw n f as p with
    | some w => some w
    | none => fw n f bs (p + as.length)
  | [], bs, p => rfl
  | a :: as, bs, p => by
    show (if suZ a (dgT n f p) (dg n f (p - 1)) then fw n f (as ++ bs) (p + 1) else some p) = match (if suZ a (dgT n f p) (dg n f (p - 1)) then fw n f as (p + 1) else some p) with | some w => some w | none => fw n f bs (p + (as.length + 1))
    split
    · rw [fw_append as bs (p + 1), show p + 1 + as.length = p + (as.length + 1) by omega]
    · rfl
theorem fw_bound {n : Nat} {f : Nat → Nat} (hn : n ≤ 120) : ∀ {ks : List Nat} {p w : Nat}, fw n f ks p = some w → p ≤ w ∧ w < p + ks.length ∧ (p ≤ n → w ≤ n)
  | [], _, _, h => by cases h
  | c :: cs, p, w, h => by
    unfold fw at h
    split at h
    · rename_i hs
      obtain ⟨h1, h2, h3⟩ := fw_bound hn h
      obtain ⟨g1, g2⟩ := suZ_dig hs
      have hpn : p < n := by
        refine Classical.byContradiction (fun q => ?_)
        unfold dgT chT at g1
        rw [if_neg q] at g1
        omega
      exact ⟨by omega, by show w < p + (cs.length + 1); omega, fun _ => h3 (by omega)⟩
    · cases h; exact ⟨Nat.le_refl _, by show p < p + (cs.length + 1); omega, fun h => h⟩
theorem feL_stop {n : Nat} {f : Nat → Nat} {p : Nat} (h : ¬ p < n) : ∀ fu, feL n f fu p = none
  | 0 => rfl
  | fu + 1 => by unfold feL; rw [if_neg h]
theorem exL_stop {n : Nat} {f : Nat → Nat} {p : Nat} {z : ZS} {o : Nat} (h : ¬ p < n) : ∀ fu, exL n f fu p z o = (z, o)
  | 0 => rfl
  | fu + 1 => by unfold exL; rw [if_neg h]
/-- more fuel than places left changes nothing -/
theorem feL_fuel {n : Nat} {f : Nat → Nat} : ∀ (fu fv p : Nat), n ≤ p + fu → n ≤ p + fv → feL n f fu p = feL n f fv p
  | 0, fv, p, h1, h2 => by rw [feL_stop (by omega), feL_stop (by omega)]
  | fu + 1, 0, p, h1, h2 => by rw [feL_stop (by omega), feL_stop (by omega)]
  | fu + 1, fv + 1, p, h1, h2 => by
    unfold feL
    by_cases hp : p < n
    · rw [if_pos hp, if_pos hp]
      cases hk : cmK (f p) with
      | none => rfl
      | some ks =>
        show (match fw n f ks (p + 1) with | some w => some w | none => feL n f fu (p + 1 + ks.length)) = (match fw n f ks (p + 1) with | some w => some w | none => feL n f fv (p + 1 + ks.length))
        rw [feL_fuel fu fv (p + 1 + ks.length) (by omega) (by omega)]
    · rw [if_neg hp, if_neg hp]
theorem feL_no {n : Nat} {f : Nat → Nat} {p fu : Nat} (hp : p < n) (hk : cmK (f p) = none) : feL n f (fu + 1) p = some p := by
  show (if p < n then _ else _) = _
  rw [if_pos hp, hk]
theorem feL_bad {n : Nat} {f : Nat → Nat} {p fu w : Nat} {ks : List Nat} (hp : p < n) (hk : cmK (f p) = some ks) (hw : fw n f ks (p + 1) = some w) : feL n f (fu + 1) p = some w := by
  show (if p < n then (match cmK (f p) with | none => some p | some ks => match fw n f ks (p + 1) with | some w => some w | none => feL n f fu (p + 1 + ks.length)) else none) = _
  rw [if_pos hp, hk]
  show (match fw n f ks (p + 1) with | some w => some w | none => feL n f fu (p + 1 + ks.length)) = _
  rw [hw]
theorem feL_go {n : Nat} {f : Nat → Nat} {p fu : Nat} {ks : List Nat} (hp : p < n) (hk : cmK (f p) = some ks) (hw : fw n f ks (p + 1) = none) : feL n f (fu + 1) p = feL n f fu (p + 1 + ks.length) := by
  show (if p < n then (match cmK (f p) with | none => some p | some ks => match fw n f ks (p + 1) with | some w => some w | none => feL n f fu (p + 1 + ks.length)) else none) = _
  rw [if_pos hp, hk]
  show (match fw n f ks (p + 1) with | some w => some w | none => feL n f fu (p + 1 + ks.length)) = _
  rw [hw]
theorem exL_go {n : Nat} {f : Nat → Nat} {p fu o : Nat} {z : ZS} (hp : p < n) : exL n f (fu + 1) p z o = exL n f fu (p + 1 + cmL (f p)) (cmdZ z (f p) (fun i => dg n f (p + i))).2 (o + if (cmdZ z (f p) (fun i => dg n f (p + i))).1 then 0 else 1) := by
  show (if p < n then _ else _) = _
  rw [if_pos hp]
/-- one digit of a number, or two -/
def oneD : List (Nat × Nat × Nat) := [(120, 0, 7), (110, 2, 6), (115, 1, 2)]
def twoD : List (Nat × Nat × Nat × Nat) := [(100, 100, 0, 99), (75, 107, 0, 55), (89, 121, 0, 13), (67, 99, 1, 20)]
theorem one_su {c lo hi : Nat} (h : (c, lo, hi) ∈ oneD) (k v : Nat) : sutZ c k v = decide (lo ≤ k ∧ k ≤ hi) := by
  simp only [oneD, List.mem_cons, List.not_mem_nil, or_false, Prod.mk.injEq] at h
  rcases h with ⟨rfl, rfl, rfl⟩ | ⟨rfl, rfl, rfl⟩ | ⟨rfl, rfl, rfl⟩
  · show decide (k ≤ 7) = _
    rw [decide_eq_decide]; omega
  · rfl
  · rfl
theorem two_su {c1 c2 lo hi : Nat} (h : (c1, c2, lo, hi) ∈ twoD) (k v k2 : Nat) (hk : k ≤ 9) (hk2 : k2 ≤ 9) : sutZ c1 k v = decide (lo ≤ k * 10 + 9 ∧ k * 10 ≤ hi) ∧ (sutZ c1 k v = true → sutZ c2 k2 k = decide (lo ≤ k * 10 + k2 ∧ k * 10 + k2 ≤ hi)) := by
  simp only [twoD, List.mem_cons, List.not_mem_nil, or_false, Prod.mk.injEq] at h
  rcases h with ⟨rfl, rfl, rfl, rfl⟩ | ⟨rfl, rfl, rfl, rfl⟩ | ⟨rfl, rfl, rfl, rfl⟩ | ⟨rfl, rfl, rfl, rfl⟩
  · refine ⟨(decide_eq_true (by omega)).symm, fun _ => (decide_eq_true (by omega)).symm⟩
  · refine ⟨?_, fun h => ?_⟩
    · show decide (k ≤ 5) = _
      rw [decide_eq_decide]; omega
    · have h : decide (k ≤ 5) = true := h
      have h := of_decide_eq_true h
      show decide (k < 5 ∨ k2 ≤ 5) = _
      rw [decide_eq_decide]; omega
  · refine ⟨?_, fun h => ?_⟩
    · show decide (k ≤ 1) = _
      rw [decide_eq_decide]; omega
    · have h : decide (k ≤ 1) = true := h
      have h := of_decide_eq_true h
      show decide (k < 1 ∨ k2 ≤ 3) = _
      rw [decide_eq_decide]; omega
  · refine ⟨?_, fun h => ?_⟩
    · show decide (k ≤ 2) = _
      rw [decide_eq_decide]; omega
    · have h : decide (k ≤ 2) = true := h
      have h := of_decide_eq_true h
      show (if k = 0 then decide (1 ≤ k2) else decide (k = 1 ∨ k2 = 0)) = _
      by_cases e : k = 0
      · rw [if_pos e, decide_eq_decide]; omega
      · rw [if_neg e, decide_eq_decide]; omega
theorem imp_le : ∀ (f : Nat) {z : ZS}, ZOK z → erAll (impZ f z) ≤ erAll z
  | 0, z, h => Int.le_refl _
  | f + 1, z, h => by
    cases hq : bestZ z with
    | none => rw [impZ_none hq]; exact Int.le_refl _
    | some q =>
      obtain ⟨n, g⟩ := q
      by_cases hg : 0 < g
      · obtain ⟨d1, d2, d3, d4⟩ := do_gain h (bestZ_g _ hq)
        have d1 : erAll z - erAll (doZ z n) = g := d1
        have d3 : ZOK (doZ z n) := d3
        have := imp_le f d3
        rw [impZ_go hq hg]; omega
      · rw [impZ_stop hq hg]; exact Int.le_refl _
theorem zM_one {f : Nat → Nat} {k : Nat} : ∀ n, k < n → f k ≤ zM f n
  | 0, h => absurd h (Nat.not_lt_zero _)
  | n + 1, h => by
    show f k ≤ zM f n + f n
    by_cases e : k = n
    · rw [e]; omega
    · have := zM_one (f := f) (k := k) n (by omega); omega
theorem aS_tok {z : ZS} (ht : TOK z) (j k : Nat) : TOK (aS z j k) := by
  unfold aS
  split
  · rename_i h
    unfold canS at h
    simp only [Bool.and_eq_true, decide_eq_true_eq] at h
    exact swapZ_tok ht (by omega) (by omega)
  · exact ht
theorem flO_tok {z : ZS} (h : ZOK z) (ht : TOK z) {x y : Nat} : TOK (flO z (flA z x y)) := by
  cases hq : flA z x y with
  | none => exact ht
  | some kl =>
    obtain ⟨k, l⟩ := kl
    unfold flA at hq
    split at hq
    · unfold canF at hq
      cases hb1 : blk z (y * zc z + x) with
      | none => rw [hb1] at hq; cases hq
      | some k2 =>
        obtain ⟨b1, b2, b3⟩ := (blk_some h).mp hb1
        rw [hb1] at hq
        have hq : (match part z k2 with | none => none | some l => if zH z k2 = 0 ∧ zH z l = 0 then some (k2, l) else none) = some (k, l) := hq
        cases hp : part z k2 with
        | none => rw [hp] at hq; cases hq
        | some l2 =>
          rw [hp] at hq
          have hq : (if zH z k2 = 0 ∧ zH z l2 = 0 then some (k2, l2) else none) = some (k, l) := hq
          split at hq
          · cases hq; exact flipZ_tok h ht b1 hp
          · cases hq
    · cases hq
theorem imp_tok {z : ZS} (h : ZOK z) (ht : TOK z) (f : Nat) : TOK (impZ f z) := (imp_ch f h).2.2 ht
theorem cmdZ_tok {z : ZS} (h : ZOK z) (ht : TOK z) (c : Nat) (d : Nat → Nat) : TOK (cmdZ z c d).2 := by
  unfold cmdZ
  split
  · exact aG_tok ht _ _ _
  split
  · exact aT_tok ht _
  split
  · exact aS_tok ht _ _
  split
  · exact flO_tok h ht
  split
  · exact aH_tok ht _
  split
  · exact ht
  split
  · exact layZ_tok h ht
  split
  · exact imp_tok h ht _
  · exact ht
theorem grpZ_tok {z : ZS} (h : ZOK z) (ht : TOK z) (g : Nat) : TOK (grpZ z g).2 := by
  unfold grpZ
  split
  · exact aG_tok ht _ _ _
  split
  · split
    · exact aT_tok ht _
    · exact ht
  split
  · split
    · exact aS_tok ht _ _
    · exact ht
  split
  · split
    · exact flO_tok h ht
    · exact ht
  split
  · split
    · exact imp_tok h ht _
    · exact ht
  split
  · exact ht
  split
  · exact ht
  split
  · exact ht
  split
  · exact ht
  · exact ht
theorem simZ_tok {z : ZS} (h : ZOK z) (ht : TOK z) (r : Nat) : TOK (simZ z r) := by
  unfold simZ
  split
  · exact aG_tok ht _ _ _
  split
  · exact aT_tok ht _
  split
  · exact aS_tok ht _ _
  split
  · exact flO_tok h ht
  split
  · split
    · exact ht
    · exact layZ_tok h ht
  · exact imp_tok h ht _
