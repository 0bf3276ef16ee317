/-! a portrait as numbers: n, sets, changes; rows: 0 greys, 1 first, 2 other, 3 tiles, 4 turned, 5 held -/
abbrev ZS : Type := Nat × Nat × Int32 × (Nat → Nat → Nat)
def zn (z : ZS) : Nat := z.1
def zs (z : ZS) : Nat := z.2.1
def zch (z : ZS) : Int32 := z.2.2.1
def zG (z : ZS) (s : Nat) : Nat := z.2.2.2 0 s
def zF (z : ZS) (k : Nat) : Nat := z.2.2.2 1 k
def zO (z : ZS) (k : Nat) : Nat := z.2.2.2 2 k
def zT (z : ZS) (k : Nat) : Nat := z.2.2.2 3 k
def zU (z : ZS) (k : Nat) : Nat := z.2.2.2 4 k
def zH (z : ZS) (k : Nat) : Nat := z.2.2.2 5 k
def zc (z : ZS) : Nat := zn z + 2
def zr (z : ZS) : Nat := (zn z + 1) * zs z
def zq (z : ZS) : Nat := zc z * zr z
def zt (z : ZS) : Nat := zq z / 2
/-- the row j of the portrait anew -/
def zset (z : ZS) (j : Nat) (f : Nat → Nat) : ZS := (z.1, z.2.1, z.2.2.1, fun i => if i = j then f else z.2.2.2 i)
def zchg (z : ZS) : ZS := (z.1, z.2.1, z.2.2.1 + 1, z.2.2.2)
def ups (f : Nat → Nat) (k v : Nat) : Nat → Nat := fun j => if j = k then v else f j
def pl (n : Nat) : Nat → Nat → Nat → Nat × Nat
  | 0, r, a => (a, a + r)
  | f + 1, r, a => if n - a < r then pl n f (r - (n - a + 1)) (a + 1) else (a, a + r)
def plo (n t : Nat) : Nat := (pl n 8 (t % ((n + 1) * (n + 2) / 2)) 0).1
def phi (n t : Nat) : Nat := (pl n 8 (t % ((n + 1) * (n + 2) / 2)) 0).2
theorem pl_le0 : ∀ n, n < 7 → ∀ t, t < 56 → 2 ≤ n → plo n t ≤ n ∧ phi n t ≤ n := by decide +kernel
theorem pl_le {n t : Nat} (h1 : 2 ≤ n) (h2 : n ≤ 6) (ht : t < 56) : plo n t ≤ n ∧ phi n t ≤ n := pl_le0 n (by omega) t ht h1
def sh (n p : Nat) : Nat := 99 * p / n
theorem sh_le {n p : Nat} (hn : 2 ≤ n) (h : p ≤ n) : sh n p ≤ 99 := by
  unfold sh
  exact Nat.div_le_of_le_mul (by rw [Nat.mul_comm n 99]; exact Nat.mul_le_mul_left 99 h)
def ha (z : ZS) (t : Nat) : Nat := sh (zn z) (plo (zn z) t)
def hb (z : ZS) (t : Nat) : Nat := sh (zn z) (phi (zn z) t)
/-- the error of the tile t on the squares f and o -/
def e4 (z : ZS) (f o t u : Nat) : Int := if u = 0 then sqd (zG z f) (ha z t) + sqd (zG z o) (hb z t) else sqd (zG z f) (hb z t) + sqd (zG z o) (ha z t)
def ek (z : ZS) (k u : Nat) : Int := e4 z (zF z k) (zO z k) (zT z k) u
def er (z : ZS) (k : Nat) : Int := ek z k (zU z k)
def lw (z : ZS) (f o t : Nat) : Int := lst (zG z f) (zG z o) (ha z t) (hb z t)
def zS (f : Nat → Int) : Nat → Int
  | 0 => 0
  | n + 1 => zS f n + f n
def erAll (z : ZS) : Int := zS (er z) (zt z)
def al (z : ZS) (k : Nat) : Bool := decide (zO z k = zF z k + 1)
def tgZ (z : ZS) (k : Nat) : Int := er z k - ek z k (1 - zU z k)
def sgZ (z : ZS) (j k : Nat) : Int := er z j + er z k - lw z (zF z j) (zO z j) (zT z k) - lw z (zF z k) (zO z k) (zT z j)
def stt (z : ZS) (k : Nat) : Nat := zF z k + (if al z k then zc z else 1)
def pkB (z : ZS) (k l : Nat) : Bool := decide (zF z l = stt z k) && (al z l == al z k) && (al z k || decide (zF z k % zc z ≠ zc z - 1))
def part (z : ZS) (k : Nat) : Option Nat := (List.range (zt z)).find? (pkB z k)
def fst2 (z : ZS) (k : Nat) : Nat := zF z k + (if al z k then 1 else zc z)
def stp (z : ZS) (k : Nat) : Nat := if al z k then zc z else 1
def fgZ (z : ZS) (k l : Nat) : Int := er z k + er z l - lw z (zF z k) (zF z k + stp z k) (zT z k) - lw z (fst2 z k) (fst2 z k + stp z k) (zT z l)
def ZOK (z : ZS) : Prop := (2 ≤ zn z ∧ zn z ≤ 6 ∧ 1 ≤ zs z ∧ zs z ≤ 2) ∧ (∀ s, s < zq z → zG z s ≤ 99) ∧
  (∀ k, k < zt z → zF z k < zO z k ∧ zO z k < zq z ∧ (zO z k = zF z k + 1 ∧ zF z k % zc z + 1 < zc z ∨ zO z k = zF z k + zc z)) ∧
  (∀ i j, i < j → j < zt z → zF z i < zF z j) ∧ (∀ i j, i < zt z → j < zt z → zF z i ≠ zO z j) ∧ (∀ i j, i < zt z → j < zt z → zO z i = zO z j → i = j) ∧ (∀ s, s < zq z → ∃ k, k < zt z ∧ (zF z k = s ∨ zO z k = s)) ∧
  (∀ k, k < zt z → zT z k < zt z) ∧ (∀ k, k < zt z → zU z k ≤ 1) ∧ (∀ k, k < zt z → zH z k ≤ 1)
theorem ZOK.dims {z : ZS} (h : ZOK z) : zc z ≤ 8 ∧ 4 ≤ zc z ∧ zr z ≤ 14 ∧ 3 ≤ zr z ∧ zq z ≤ 112 ∧ zt z ≤ 56 ∧ 6 ≤ zt z ∧ zq z = 2 * zt z := by
  obtain ⟨⟨h1, h2, h3, h4⟩, -⟩ := h
  have e1 : zn z = 2 ∨ zn z = 3 ∨ zn z = 4 ∨ zn z = 5 ∨ zn z = 6 := by omega
  have e2 : zs z = 1 ∨ zs z = 2 := by omega
  rcases e1 with e | e | e | e | e <;> rcases e2 with f | f <;> (unfold zt zq zr zc; rw [e, f]; decide)
theorem ZOK.n {z : ZS} (h : ZOK z) : 2 ≤ zn z ∧ zn z ≤ 6 ∧ 1 ≤ zs z ∧ zs z ≤ 2 := h.1
theorem ZOK.g {z : ZS} (h : ZOK z) {s : Nat} (hs : s < zq z) : zG z s ≤ 99 := h.2.1 s hs
theorem ZOK.fo {z : ZS} (h : ZOK z) {k : Nat} (hk : k < zt z) : zF z k < zO z k ∧ zO z k < zq z ∧ (zO z k = zF z k + 1 ∧ zF z k % zc z + 1 < zc z ∨ zO z k = zF z k + zc z) := h.2.2.1 k hk
theorem ZOK.mono {z : ZS} (h : ZOK z) {i j : Nat} (hij : i < j) (hj : j < zt z) : zF z i < zF z j := h.2.2.2.1 i j hij hj
theorem ZOK.fno {z : ZS} (h : ZOK z) {i j : Nat} (hi : i < zt z) (hj : j < zt z) : zF z i ≠ zO z j := h.2.2.2.2.1 i j hi hj
theorem ZOK.oinj {z : ZS} (h : ZOK z) {i j : Nat} (hi : i < zt z) (hj : j < zt z) (e : zO z i = zO z j) : i = j := h.2.2.2.2.2.1 i j hi hj e
theorem ZOK.cov {z : ZS} (h : ZOK z) {s : Nat} (hs : s < zq z) : ∃ k, k < zt z ∧ (zF z k = s ∨ zO z k = s) := h.2.2.2.2.2.2.1 s hs
theorem ZOK.t {z : ZS} (h : ZOK z) {k : Nat} (hk : k < zt z) : zT z k < zt z := h.2.2.2.2.2.2.2.1 k hk
/-- no tile lies twice -/
def TOK (z : ZS) : Prop := ∀ i j, i < zt z → j < zt z → zT z i = zT z j → i = j
theorem ZOK.u {z : ZS} (h : ZOK z) {k : Nat} (hk : k < zt z) : zU z k ≤ 1 := h.2.2.2.2.2.2.2.2.1 k hk
theorem ZOK.h {z : ZS} (h : ZOK z) {k : Nat} (hk : k < zt z) : zH z k ≤ 1 := h.2.2.2.2.2.2.2.2.2 k hk
theorem ZOK.finj {z : ZS} (h : ZOK z) {i j : Nat} (hi : i < zt z) (hj : j < zt z) (e : zF z i = zF z j) : i = j := by
  rcases Nat.lt_trichotomy i j with q | q | q
  · have := h.mono q hj; omega
  · exact q
  · have := h.mono q hi; omega
theorem ZOK.pips {z : ZS} (h : ZOK z) {t : Nat} (ht : t < zt z) : plo (zn z) t ≤ zn z ∧ phi (zn z) t ≤ zn z := by
  have h1 := h.dims
  exact pl_le h.n.1 h.n.2.1 (by omega)
theorem ZOK.hab {z : ZS} (h : ZOK z) {t : Nat} (ht : t < zt z) : ha z t ≤ 99 ∧ hb z t ≤ 99 := ⟨sh_le h.n.1 (h.pips ht).1, sh_le h.n.1 (h.pips ht).2⟩
theorem ZOK.e4B {z : ZS} (h : ZOK z) {f o t u : Nat} (hf : f < zq z) (ho : o < zq z) (ht : t < zt z) : 0 ≤ e4 z f o t u ∧ e4 z f o t u ≤ 19602 := by
  have g1 := h.g hf
  have g2 := h.g ho
  have g3 := h.hab ht
  have a1 := sqd_le g1 g3.1
  have a2 := sqd_le g1 g3.2
  have a3 := sqd_le g2 g3.1
  have a4 := sqd_le g2 g3.2
  unfold e4
  split <;> omega
theorem ZOK.lwB {z : ZS} (h : ZOK z) {f o t : Nat} (hf : f < zq z) (ho : o < zq z) (ht : t < zt z) : 0 ≤ lw z f o t ∧ lw z f o t ≤ 19602 := by
  have g1 := h.g hf
  have g2 := h.g ho
  have g3 := h.hab ht
  have a1 := sqd_le g1 g3.1
  have a2 := sqd_le g1 g3.2
  have a3 := sqd_le g2 g3.1
  have a4 := sqd_le g2 g3.2
  show 0 ≤ lst _ _ _ _ ∧ lst _ _ _ _ ≤ 19602
  unfold lst
  split <;> omega
theorem ZOK.fq {z : ZS} (h : ZOK z) {k : Nat} (hk : k < zt z) : zF z k < zq z := by have := h.fo hk; omega
theorem ZOK.oq {z : ZS} (h : ZOK z) {k : Nat} (hk : k < zt z) : zO z k < zq z := by have := h.fo hk; omega
theorem ZOK.ekB {z : ZS} (h : ZOK z) {k u : Nat} (hk : k < zt z) : 0 ≤ ek z k u ∧ ek z k u ≤ 19602 := h.e4B (h.fq hk) (h.oq hk) (h.t hk)
theorem ZOK.erB {z : ZS} (h : ZOK z) {k : Nat} (hk : k < zt z) : 0 ≤ er z k ∧ er z k ≤ 19602 := h.ekB hk
theorem zS_bound {f : Nat → Int} {c : Int} {m : Nat} (hf : ∀ k, k < m → 0 ≤ f k ∧ f k ≤ c) : ∀ n, n ≤ m → 0 ≤ zS f n ∧ zS f n ≤ c * n
  | 0, _ => by simp [zS]
  | n + 1, h => by
    have ih := zS_bound hf n (by omega)
    have h1 := hf n (by omega)
    unfold zS
    rw [show (((n + 1 : Nat)) : Int) = (n : Int) + 1 from rfl, Int.mul_add]
    omega
theorem zS_cong {f g : Nat → Int} : ∀ {n : Nat}, (∀ k, k < n → f k = g k) → zS f n = zS g n
  | 0, _ => rfl
  | n + 1, h => by unfold zS; rw [zS_cong (fun k hk => h k (by omega)), h n (by omega)]
theorem ZOK.erAllN {z : ZS} (h : ZOK z) (n : Nat) (hn : n ≤ zt z) : 0 ≤ zS (er z) n ∧ zS (er z) n ≤ 1097712 := by
  have h1 := zS_bound (f := er z) (c := 19602) (m := zt z) (fun k hk => h.erB hk) n hn
  have := h.dims
  omega
theorem part_spec {z : ZS} (h : ZOK z) {k l : Nat} : part z k = some l ↔ l < zt z ∧ pkB z k l = true := by
  constructor
  · intro hp
    have h1 := List.find?_some hp
    have h2 := List.mem_of_find?_eq_some hp
    exact ⟨List.mem_range.mp h2, h1⟩
  · rintro ⟨hl, hp⟩
    cases hq : part z k with
    | none =>
      have := List.find?_eq_none.mp hq l (List.mem_range.mpr hl)
      exact absurd hp this
    | some m =>
      have h1 := List.find?_some hq
      have h2 := List.mem_range.mp (List.mem_of_find?_eq_some hq)
      simp only [pkB, Bool.and_eq_true, decide_eq_true_eq] at h1 hp
      rw [h.finj h2 hl (by rw [h1.1.1, hp.1.1])]
theorem part_none {z : ZS} {k : Nat} (hn : ∀ l, l < zt z → pkB z k l = false) : part z k = none := by
  refine List.find?_eq_none.mpr (fun l hl => ?_)
  rw [hn l (List.mem_range.mp hl)]; decide
/-- -1, or the number -/
def oI (o : Option Nat) : Int32 := match o with
  | none => -1
  | some l => nI l
