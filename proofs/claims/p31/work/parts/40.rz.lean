/-! the reference's row: n, sets, changes; from 3 greys, from 115 how the place that begins there lies (0: none begins), from 227 its tile, from 339 turned, from 451 held -/
def lz (z : ZS) (k : Nat) : Nat := if al z k then 1 else 2
def InvR (f : Nat → Int32) (z : ZS) : Prop := (f 0 = nI (zn z) ∧ f 1 = nI (zs z) ∧ f 2 = zch z) ∧ (∀ s, s < zq z → f (3 + s) = nI (zG z s)) ∧
  (∀ k, k < zt z → f (115 + zF z k) = nI (lz z k) ∧ f (227 + zF z k) = nI (zT z k) ∧ f (339 + zF z k) = nI (zU z k) ∧ f (451 + zF z k) = nI (zH z k)) ∧
  (∀ s, s < zq z → (∀ k, k < zt z → zF z k ≠ s) → f (115 + s) = nI 0)
theorem InvR.n {f : Nat → Int32} {z : ZS} (h : InvR f z) : f 0 = nI (zn z) := h.1.1
theorem InvR.s {f : Nat → Int32} {z : ZS} (h : InvR f z) : f 1 = nI (zs z) := h.1.2.1
theorem InvR.ch {f : Nat → Int32} {z : ZS} (h : InvR f z) : f 2 = zch z := h.1.2.2
theorem InvR.G {f : Nat → Int32} {z : ZS} (h : InvR f z) {s : Nat} (hs : s < zq z) : f (3 + s) = nI (zG z s) := h.2.1 s hs
theorem InvR.L {f : Nat → Int32} {z : ZS} (h : InvR f z) {k : Nat} (hk : k < zt z) : f (115 + zF z k) = nI (lz z k) := (h.2.2.1 k hk).1
theorem InvR.T {f : Nat → Int32} {z : ZS} (h : InvR f z) {k : Nat} (hk : k < zt z) : f (227 + zF z k) = nI (zT z k) := (h.2.2.1 k hk).2.1
theorem InvR.U {f : Nat → Int32} {z : ZS} (h : InvR f z) {k : Nat} (hk : k < zt z) : f (339 + zF z k) = nI (zU z k) := (h.2.2.1 k hk).2.2.1
theorem InvR.H {f : Nat → Int32} {z : ZS} (h : InvR f z) {k : Nat} (hk : k < zt z) : f (451 + zF z k) = nI (zH z k) := (h.2.2.1 k hk).2.2.2
theorem InvR.Z {f : Nat → Int32} {z : ZS} (h : InvR f z) {s : Nat} (hs : s < zq z) (hn : ∀ k, k < zt z → zF z k ≠ s) : f (115 + s) = nI 0 := h.2.2.2 s hs hn
def fsq (z : ZS) (s : Nat) : Bool := (List.range (zt z)).any (fun k => decide (zF z k = s))
/-- how many places begin before the square s -/
def cnt (z : ZS) (s : Nat) : Nat := zN (fsq z) s
theorem fsq_y {z : ZS} {k : Nat} (hk : k < zt z) : fsq z (zF z k) = true := List.any_eq_true.mpr ⟨k, List.mem_range.mpr hk, decide_eq_true rfl⟩
theorem fsq_ex {z : ZS} {s : Nat} (h : fsq z s = true) : ∃ k, k < zt z ∧ zF z k = s := by
  obtain ⟨k, hk, he⟩ := List.any_eq_true.mp h
  exact ⟨k, List.mem_range.mp hk, of_decide_eq_true he⟩
theorem fsq_n {z : ZS} {s : Nat} (h : ∀ k, k < zt z → zF z k ≠ s) : fsq z s = false := by
  cases hb : fsq z s with
  | false => rfl
  | true =>
    obtain ⟨k, hk, he⟩ := fsq_ex hb
    exact absurd he (h k hk)
theorem cnt_spec {z : ZS} (h : ZOK z) : ∀ s, cnt z s ≤ zt z ∧ ∀ k, k < zt z → (zF z k < s ↔ k < cnt z s)
  | 0 => ⟨Nat.zero_le _, fun k hk => ⟨fun h => absurd h (Nat.not_lt_zero _), fun h => absurd h (Nat.not_lt_zero _)⟩⟩
  | s + 1 => by
    obtain ⟨h1, h2⟩ := cnt_spec h s
    have e : cnt z (s + 1) = cnt z s + (if fsq z s then 1 else 0) := rfl
    cases hb : fsq z s with
    | true =>
      rw [hb] at e
      have e : cnt z (s + 1) = cnt z s + 1 := e
      obtain ⟨j, hj, hf⟩ := fsq_ex hb
      have ej : j = cnt z s := by
        have a1 := h2 j hj
        rcases Nat.lt_trichotomy j (cnt z s) with q | q | q
        · have := a1.mpr q; omega
        · exact q
        · have q2 : cnt z s < zt z := by omega
          have q3 := h.mono q hj
          have := (h2 _ q2).mp (by omega)
          omega
      refine ⟨by omega, fun k hk => ?_⟩
      rw [e]
      constructor
      · intro q
        rcases Nat.lt_or_ge (zF z k) s with q1 | q1
        · have := (h2 k hk).mp q1; omega
        · have : k = j := h.finj hk hj (by omega)
          omega
      · intro q
        rcases Nat.lt_or_ge k (cnt z s) with q1 | q1
        · have := (h2 k hk).mpr q1; omega
        · have q4 : k = j := by omega
          subst q4; omega
    | false =>
      rw [hb] at e
      have e : cnt z (s + 1) = cnt z s := e
      refine ⟨by omega, fun k hk => ?_⟩
      rw [e, ← h2 k hk]
      have : zF z k ≠ s := fun q => by rw [← q, fsq_y hk] at hb; cases hb
      omega
theorem cnt_le {z : ZS} (h : ZOK z) (s : Nat) : cnt z s ≤ zt z := (cnt_spec h s).1
theorem cnt_first {z : ZS} (h : ZOK z) {k : Nat} (hk : k < zt z) : cnt z (zF z k) = k := by
  obtain ⟨h1, h2⟩ := cnt_spec h (zF z k)
  have a1 := h2 k hk
  rcases Nat.lt_trichotomy (cnt z (zF z k)) k with q | q | q
  · have q2 := h.mono q hk
    have := (h2 _ (by omega)).mp q2
    omega
  · exact q
  · have := a1.mpr q; omega
theorem cnt_succ {z : ZS} (h : ZOK z) {k : Nat} (hk : k < zt z) : cnt z (zF z k + 1) = k + 1 := by
  show cnt z (zF z k) + (if fsq z (zF z k) then 1 else 0) = k + 1
  rw [fsq_y hk, cnt_first h hk]; rfl
theorem cnt_no {z : ZS} {s : Nat} (hn : ∀ k, k < zt z → zF z k ≠ s) : cnt z (s + 1) = cnt z s := by
  show cnt z s + (if fsq z s then 1 else 0) = cnt z s
  rw [fsq_n hn]; rfl
theorem cnt_end {z : ZS} (h : ZOK z) : cnt z (zq z) = zt z := by
  obtain ⟨h1, h2⟩ := cnt_spec h (zq z)
  have hd := h.dims
  rcases Nat.lt_or_ge (cnt z (zq z)) (zt z) with q | q
  · have := (h2 _ q).mp (h.fq q); omega
  · omega
theorem sq_cases {z : ZS} (h : ZOK z) (s : Nat) : (∃ k, k < zt z ∧ zF z k = s ∧ cnt z s = k ∧ cnt z (s + 1) = k + 1) ∨ ((∀ k, k < zt z → zF z k ≠ s) ∧ cnt z (s + 1) = cnt z s) := by
  cases hb : fsq z s with
  | true =>
    obtain ⟨k, hk, e⟩ := fsq_ex hb
    refine Or.inl ⟨k, hk, e, ?_, ?_⟩
    · rw [← e]; exact cnt_first h hk
    · rw [← e]; exact cnt_succ h hk
  | false =>
    have hn : ∀ k, k < zt z → zF z k ≠ s := fun k hk q => by rw [← q, fsq_y hk] at hb; cases hb
    exact Or.inr ⟨hn, cnt_no hn⟩
theorem lz_pos (z : ZS) (k : Nat) : 0 < lz z k ∧ lz z k ≤ 2 := by unfold lz; split <;> decide
theorem e4_0 (z : ZS) (f o t : Nat) : e4 z f o t 0 = sqd (zG z f) (ha z t) + sqd (zG z o) (hb z t) := if_pos rfl
theorem e4_1 (z : ZS) (f o t : Nat) : e4 z f o t 1 = sqd (zG z f) (hb z t) + sqd (zG z o) (ha z t) := if_neg (by decide)
theorem e4_bet (z : ZS) (f o t : Nat) : e4 z f o t (bet z f o t) = lw z f o t := by
  have h0 := e4_0 z f o t
  have h1 := e4_1 z f o t
  have e : lw z f o t = if e4 z f o t 0 ≤ e4 z f o t 1 then e4 z f o t 0 else e4 z f o t 1 := by rw [h0, h1]; rfl
  rw [e]
  unfold bet
  split
  · rw [if_neg (by omega)]
  · rw [if_pos (by omega)]
theorem al_iff {z : ZS} (h : ZOK z) {k : Nat} (hk : k < zt z) : (al z k = true ∧ zO z k = zF z k + 1 ∧ zF z k % zc z + 1 < zc z ∧ lz z k = 1) ∨ (al z k = false ∧ zO z k = zF z k + zc z ∧ lz z k = 2) := by
  have hf := h.fo hk
  have hd := h.dims
  cases ha : al z k with
  | true =>
    have e1 : zO z k = zF z k + 1 := of_decide_eq_true ha
    refine Or.inl ⟨rfl, e1, ?_, by unfold lz; rw [ha]; rfl⟩
    rcases hf.2.2 with q | q
    · exact q.2
    · omega
  | false =>
    have e1 : ¬ zO z k = zF z k + 1 := of_decide_eq_false ha
    refine Or.inr ⟨rfl, ?_, by unfold lz; rw [ha]; rfl⟩
    rcases hf.2.2 with q | q
    · exact absurd q.1 e1
    · exact q
/-- n, sets and greys alone -/
def InvG (f : Nat → Int32) (z : ZS) : Prop := (f 0 = nI (zn z) ∧ f 1 = nI (zs z)) ∧ ∀ s, s < zq z → f (3 + s) = nI (zG z s)
theorem InvG.n {f : Nat → Int32} {z : ZS} (h : InvG f z) : f 0 = nI (zn z) := h.1.1
theorem InvG.s {f : Nat → Int32} {z : ZS} (h : InvG f z) : f 1 = nI (zs z) := h.1.2
theorem InvG.G {f : Nat → Int32} {z : ZS} (h : InvG f z) {s : Nat} (hs : s < zq z) : f (3 + s) = nI (zG z s) := h.2 s hs
theorem InvR.toG {f : Nat → Int32} {z : ZS} (h : InvR f z) : InvG f z := ⟨⟨h.n, h.s⟩, h.2.1⟩
theorem InvG.upd {f : Nat → Int32} {z : ZS} (h : InvG f z) (hZ : ZOK z) {i : Nat} {v : Int32} (hi : 115 ≤ i) : InvG (upd f i v) z := by
  have hd := hZ.dims
  refine ⟨⟨by rw [upd_ne (by omega)]; exact h.n, by rw [upd_ne (by omega)]; exact h.s⟩, fun s hs => ?_⟩
  rw [upd_ne (by omega)]; exact h.G hs
