/-! the cells of a board at b: the board, its state (7 cells), eight rows, the search (7 cells) -/
abbrev BS : Type := (Nat → Int32) × (Nat → Nat → Int32)
def bcs (b : Nat) (S : BS) : List PCell := [
  cO 0 [.ref (b + 1), .int (S.1 0), .int (S.1 1), .int (S.1 2), .int (S.1 3), .ref (b + 8), .ref (b + 9), .ref (b + 10), .ref (b + 11), .ref (b + 12), .ref (b + 13), .ref (b + 20), .ref (b + 21)],
  cO 4 [.int (S.1 4), .int (S.1 5), .int (S.1 6), .ref (b + 2), .ref (b + 3), .ref (b + 4), .ref (b + 5), .ref (b + 6), .ref (b + 7)],
  cI 112 (S.2 2), cI 56 (S.2 3), cI 56 (S.2 4), cI 56 (S.2 5), cI 56 (S.2 6), cI 56 (S.2 7), cI 56 (S.2 8), cI 56 (S.2 9), cI 56 (S.2 10), cI 56 (S.2 11), cI 112 (S.2 12),
  cO 2 [.int (S.1 7), .int (S.1 8), .ref (b + 14), .ref (b + 15), .ref (b + 16), .ref (b + 17), .ref (b + 18), .ref (b + 19)],
  cI 56 (S.2 14), cI 56 (S.2 15), cI 56 (S.2 16), cI 56 (S.2 17), cI 56 (S.2 18), cI 56 (S.2 19), cI 56 (S.2 20), cI 56 (S.2 21)]
def bset (M : Mem) (b : Nat) (S : BS) : Mem := fun i => if b ≤ i ∧ i < b + 22 then (bcs b S)[i - b]? else M i
theorem bcs_len (b : Nat) (S : BS) : (bcs b S).length = 22 := rfl
theorem bget {M : Mem} {b j : Nat} {S : BS} {c : PCell} (h : (bcs b S)[j]? = some c) : bset M b S (b + j) = some c := by
  have hj : j < 22 := (List.getElem?_eq_some_iff.mp h).1
  unfold bset
  rw [if_pos ⟨Nat.le_add_right _ _, Nat.add_lt_add_left hj _⟩, Nat.add_sub_cancel_left]
  exact h
theorem bget0 {M : Mem} {b : Nat} {S : BS} {c : PCell} (h : (bcs b S)[0]? = some c) : bset M b S b = some c := bget (j := 0) h
theorem bset_out {M : Mem} {b i : Nat} {S : BS} (h : i < b ∨ b + 22 ≤ i) : bset M b S i = M i := by
  unfold bset
  rw [if_neg (by omega)]
theorem bset_bset {M : Mem} {b : Nat} {S S' : BS} : bset (bset M b S) b S' = bset M b S' := by
  funext i
  by_cases h : b ≤ i ∧ i < b + 22
  · unfold bset; rw [if_pos h, if_pos h]
  · unfold bset; rw [if_neg h, if_neg h, if_neg h]
theorem bset_self {M : Mem} {b : Nat} {S : BS} (h : ∀ j c, (bcs b S)[j]? = some c → M (b + j) = some c) : bset M b S = M := by
  funext i
  by_cases hi : b ≤ i ∧ i < b + 22
  · have hj : i - b < (bcs b S).length := by rw [bcs_len]; omega
    have h1 := h (i - b) _ (List.getElem?_eq_getElem hj)
    unfold bset
    rw [if_pos hi, List.getElem?_eq_getElem hj, ← h1, show b + (i - b) = i by omega]
  · unfold bset; rw [if_neg hi]
theorem bset_mset {M : Mem} {b j : Nat} {S S' : BS} {c : PCell} (hj : j < 22) (h : bcs b S' = (bcs b S).set j c) : mset (bset M b S) (b + j) c = bset M b S' := by
  funext i
  by_cases hi : i = b + j
  · subst hi
    rw [mset_same]
    unfold bset
    rw [if_pos ⟨Nat.le_add_right _ _, Nat.add_lt_add_left hj _⟩, Nat.add_sub_cancel_left, h, List.getElem?_set_self (by rw [bcs_len]; exact hj)]
  · rw [mset_ne hi]
    by_cases h2 : b ≤ i ∧ i < b + 22
    · unfold bset
      rw [if_pos h2, if_pos h2, h, List.getElem?_set_ne (by omega)]
    · unfold bset; rw [if_neg h2, if_neg h2]
def ia (S : BS) (j : Nat) (f : Nat → Int32) : BS := (S.1, fun i => if i = j then f else S.2 i)
def ii (S : BS) (j : Nat) (v : Int32) : BS := (fun i => if i = j then v else S.1 i, S.2)
/-- the board's cells hold the portrait z -/
def InvB (S : BS) (z : ZS) : Prop := (S.1 0 = nI (zc z) ∧ S.1 1 = nI (zr z) ∧ S.1 2 = nI (zq z) ∧ S.1 3 = nI (zt z) ∧ S.1 4 = nI (zn z) ∧ S.1 5 = nI (zs z) ∧ S.1 6 = zch z) ∧
  (∀ s, s < zq z → S.2 2 s = nI (zG z s)) ∧ (∀ k, k < zt z → S.2 3 k = nI (zF z k)) ∧ (∀ k, k < zt z → S.2 4 k = nI (zO z k)) ∧ (∀ k, k < zt z → S.2 5 k = nI (zT z k)) ∧ (∀ k, k < zt z → S.2 6 k = nI (zU z k)) ∧ (∀ k, k < zt z → S.2 7 k = nI (zH z k)) ∧
  (∀ t, t < zt z → S.2 8 t = nI (plo (zn z) t)) ∧ (∀ t, t < zt z → S.2 9 t = nI (phi (zn z) t)) ∧ (∀ t, t < zt z → S.2 10 t = nI (ha z t)) ∧ (∀ t, t < zt z → S.2 11 t = nI (hb z t)) ∧
  (∀ k, k < zt z → S.2 12 (zF z k) = nI k ∧ S.2 12 (zO z k) = nI k)
theorem InvB.c0 {S : BS} {z : ZS} (h : InvB S z) : S.1 0 = nI (zc z) := h.1.1
theorem InvB.c1 {S : BS} {z : ZS} (h : InvB S z) : S.1 1 = nI (zr z) := h.1.2.1
theorem InvB.c2 {S : BS} {z : ZS} (h : InvB S z) : S.1 2 = nI (zq z) := h.1.2.2.1
theorem InvB.c3 {S : BS} {z : ZS} (h : InvB S z) : S.1 3 = nI (zt z) := h.1.2.2.2.1
theorem InvB.c4 {S : BS} {z : ZS} (h : InvB S z) : S.1 4 = nI (zn z) := h.1.2.2.2.2.1
theorem InvB.c5 {S : BS} {z : ZS} (h : InvB S z) : S.1 5 = nI (zs z) := h.1.2.2.2.2.2.1
theorem InvB.c6 {S : BS} {z : ZS} (h : InvB S z) : S.1 6 = zch z := h.1.2.2.2.2.2.2
theorem InvB.G {S : BS} {z : ZS} (h : InvB S z) {s : Nat} (hs : s < zq z) : S.2 2 s = nI (zG z s) := h.2.1 s hs
theorem InvB.F {S : BS} {z : ZS} (h : InvB S z) {k : Nat} (hk : k < zt z) : S.2 3 k = nI (zF z k) := h.2.2.1 k hk
theorem InvB.O {S : BS} {z : ZS} (h : InvB S z) {k : Nat} (hk : k < zt z) : S.2 4 k = nI (zO z k) := h.2.2.2.1 k hk
theorem InvB.T {S : BS} {z : ZS} (h : InvB S z) {k : Nat} (hk : k < zt z) : S.2 5 k = nI (zT z k) := h.2.2.2.2.1 k hk
theorem InvB.U {S : BS} {z : ZS} (h : InvB S z) {k : Nat} (hk : k < zt z) : S.2 6 k = nI (zU z k) := h.2.2.2.2.2.1 k hk
theorem InvB.H {S : BS} {z : ZS} (h : InvB S z) {k : Nat} (hk : k < zt z) : S.2 7 k = nI (zH z k) := h.2.2.2.2.2.2.1 k hk
theorem InvB.lo {S : BS} {z : ZS} (h : InvB S z) {k : Nat} (hk : k < zt z) : S.2 8 k = nI (plo (zn z) k) := h.2.2.2.2.2.2.2.1 k hk
theorem InvB.hi {S : BS} {z : ZS} (h : InvB S z) {k : Nat} (hk : k < zt z) : S.2 9 k = nI (phi (zn z) k) := h.2.2.2.2.2.2.2.2.1 k hk
theorem InvB.A {S : BS} {z : ZS} (h : InvB S z) {k : Nat} (hk : k < zt z) : S.2 10 k = nI (ha z k) := h.2.2.2.2.2.2.2.2.2.1 k hk
theorem InvB.B {S : BS} {z : ZS} (h : InvB S z) {k : Nat} (hk : k < zt z) : S.2 11 k = nI (hb z k) := h.2.2.2.2.2.2.2.2.2.2.1 k hk
theorem InvB.P1 {S : BS} {z : ZS} (h : InvB S z) {k : Nat} (hk : k < zt z) : S.2 12 (zF z k) = nI k := (h.2.2.2.2.2.2.2.2.2.2.2 k hk).1
theorem InvB.P2 {S : BS} {z : ZS} (h : InvB S z) {k : Nat} (hk : k < zt z) : S.2 12 (zO z k) = nI k := (h.2.2.2.2.2.2.2.2.2.2.2 k hk).2
theorem InvB.P {S : BS} {z : ZS} (h : InvB S z) (hZ : ZOK z) {s : Nat} (hs : s < zq z) : ∃ k, k < zt z ∧ (zF z k = s ∨ zO z k = s) ∧ S.2 12 s = nI k := by
  obtain ⟨k, hk, e⟩ := hZ.cov hs
  refine ⟨k, hk, e, ?_⟩
  rcases e with e | e
  · rw [← e]; exact h.P1 hk
  · rw [← e]; exact h.P2 hk
/-- 1 or 0 -/
def bI (b : Bool) : Int32 := if b then 1 else 0
theorem nar_bI (b : Bool) : narrow .boolean (.int (bI b)) = .int (bI b) := by cases b <;> rfl
theorem ix_or (x : Int32) (n : Nat) (hn : n < 2147483648) : (∃ k, k < n ∧ x = nI k) ∨ (x < 0 ∨ nI n ≤ x) := by
  rcases pk_ix x hn with h | h | h
  · exact Or.inr (Or.inl h)
  · exact Or.inr (Or.inr h)
  · exact Or.inl h
