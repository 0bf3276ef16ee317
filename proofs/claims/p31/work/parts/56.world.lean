theorem fw_nn {n : Nat} {f : Nat → Nat} {as bs : List Nat} {p : Nat} (h : fw n f (as ++ bs) p = none) : fw n f as p = none ∧ fw n f bs (p + as.length) = none := by
  rw [fw_append] at h
  cases ha : fw n f as p with
  | none => rw [ha] at h; exact ⟨rfl, h⟩
  | some w => rw [ha] at h; cases h
theorem d1n : (110, 2, 6) ∈ oneD := by decide
theorem d1s : (115, 1, 2) ∈ oneD := by decide
def okd (n : Nat) (f : Nat → Nat) (p v u lo hi : Nat) : Prop := 0 ≤ dgT n f p ∧ dgT n f p ≤ 9 ∧ v + dg n f p * u ≤ hi ∧ lo ≤ v + dg n f p * u + u - 1
theorem okd_one {c lo hi n p : Nat} {f : Nat → Nat} (hc : (c, lo, hi) ∈ oneD) : okd n f p 0 1 lo hi ↔ fw n f [c] p = none := by
  have e : fw n f [c] p = if suZ c (dgT n f p) (dg n f (p - 1)) then none else some p := rfl
  have e2 : suZ c (dgT n f p) (dg n f (p - 1)) = (decide (0 ≤ dgT n f p ∧ dgT n f p ≤ 9) && decide (lo ≤ dg n f p ∧ dg n f p ≤ hi)) := by
    unfold suZ
    rw [one_su hc]; rfl
  rw [e, e2]
  unfold okd
  constructor
  · rintro ⟨h1, h2, h3, h4⟩
    rw [decide_eq_true (show 0 ≤ dgT n f p ∧ dgT n f p ≤ 9 from ⟨h1, h2⟩), decide_eq_true (show lo ≤ dg n f p ∧ dg n f p ≤ hi by omega)]; rfl
  · intro h
    by_cases a : 0 ≤ dgT n f p ∧ dgT n f p ≤ 9 <;> by_cases c : lo ≤ dg n f p ∧ dg n f p ≤ hi <;> simp [a, c] at h
    exact ⟨a.1, a.2, by omega, by omega⟩
theorem one_rng {c lo hi n p : Nat} {f : Nat → Nat} (hc : (c, lo, hi) ∈ oneD) (hw : fw n f [c] p = none) : lo ≤ dg n f p ∧ dg n f p ≤ hi := by
  have h := (okd_one hc).mpr hw
  obtain ⟨-, -, h3, h4⟩ := h
  omega
/-! the world of a portrait: the portrait now; how many states are remembered, the oldest first; the slots; the text -/
abbrev WS : Type := ZS × (Nat × (Nat → ZS)) × (Nat → Option ZS) × Nat × (Nat → Nat)
def wz (w : WS) : ZS := w.1
def wk (w : WS) : Nat := w.2.1.1
def wg (w : WS) (i : Nat) : ZS := w.2.1.2 i
def wu (w : WS) (s : Nat) : Option ZS := w.2.2.1 s
def wn (w : WS) : Nat := w.2.2.2.1
def wf (w : WS) : Nat → Nat := w.2.2.2.2
/-- what a call does: 0, or which of its exceptions; its answer; the world behind it -/
abbrev RA : Type := Nat × Int32 × WS
def rO (v : Int32) (w : WS) : RA := (0, v, w)
def rN (k : Nat) (w : WS) : RA := (k, nI 0, w)
def zOT (z : ZS) : Prop := ZOK z ∧ TOK z
def WOK (w : WS) : Prop := zOT (wz w) ∧ (wk w ≤ 14 ∧ ∀ i, i < wk w → zOT (wg w i)) ∧ (∀ s y, wu w s = some y → zOT y) ∧ wn w ≤ 120 ∧ ∀ i, i < wn w → wf w i < 65536
def wNow (w : WS) (z : ZS) : WS := (z, w.2)
def wRem (w : WS) : WS := (w.1, (if wk w = 14 then (14, fun i => if i = 13 then w.1 else wg w (i + 1)) else (wk w + 1, fun i => if i = wk w then w.1 else wg w i)), w.2.2)
/-- an action -/
def wAct (w : WS) (z : ZS) : WS := wNow (wRem w) z
theorem WOK.z {w : WS} (h : WOK w) : ZOK (wz w) := h.1.1
theorem WOK.t {w : WS} (h : WOK w) : TOK (wz w) := h.1.2
theorem WOK.now {w : WS} (h : WOK w) {z : ZS} (hz : zOT z) : WOK (wNow w z) := ⟨hz, h.2⟩
theorem wRem_k (w : WS) : wk (wRem w) = if wk w = 14 then 14 else wk w + 1 := by
  show (if wk w = 14 then (14, fun i => if i = 13 then w.1 else wg w (i + 1)) else (wk w + 1, fun i => if i = wk w then w.1 else wg w i)).1 = _
  split <;> rfl
theorem wRem_g (w : WS) (i : Nat) : wg (wRem w) i = if wk w = 14 then (if i = 13 then wz w else wg w (i + 1)) else (if i = wk w then wz w else wg w i) := by
  show (if wk w = 14 then (14, fun i => if i = 13 then w.1 else wg w (i + 1)) else (wk w + 1, fun i => if i = wk w then w.1 else wg w i)).2 i = _
  split <;> rfl
theorem WOK.rem {w : WS} (h : WOK w) : WOK (wRem w) := by
  obtain ⟨h1, ⟨h2, h3⟩, h4⟩ := h
  refine ⟨h1, ⟨?_, fun i hi => ?_⟩, h4⟩
  · rw [wRem_k]; split <;> omega
  · rw [wRem_k] at hi
    rw [wRem_g]
    by_cases e : wk w = 14
    · rw [if_pos e] at hi ⊢
      by_cases q : i = 13
      · rw [if_pos q]; exact h1
      · rw [if_neg q]; exact h3 _ (by omega)
    · rw [if_neg e] at hi ⊢
      by_cases q : i = wk w
      · rw [if_pos q]; exact h1
      · rw [if_neg q]; exact h3 _ (by omega)
theorem WOK.act {w : WS} (h : WOK w) {z : ZS} (hz : zOT z) : WOK (wAct w z) := h.rem.now hz
def nm (x : Int32) : Nat := x.toInt.toNat
def inB (x : Int32) (a b : Nat) : Bool := decide ((a : Int) ≤ x.toInt ∧ x.toInt ≤ (b : Int))
theorem inB_ex {x : Int32} {a b : Nat} (h : inB x a b = true) (hb : b < 2147483648) : a ≤ nm x ∧ nm x ≤ b ∧ x = nI (nm x) := by
  have h := of_decide_eq_true h
  refine ⟨by unfold nm; omega, by unfold nm; omega, ?_⟩
  apply Int32.toInt_inj.mp
  rw [nI_toInt (by unfold nm; omega)]
  unfold nm
  omega
theorem inR_nm {x : Int32} {n : Nat} (h : inR x n = true) (hn : n < 2147483648) : nm x < n ∧ x = nI (nm x) := by
  obtain ⟨k, hk, rfl⟩ := inR_ex h hn
  unfold nm
  rw [nI_toInt (by omega)]
  exact ⟨by omega, by rw [Int.toNat_natCast]⟩
def A_append (c : Int32) (w : WS) : RA := if inB c 0 255 then (if wn w = 120 then rN 2 w else rO (nI (wn w + 1)) (w.1, w.2.1, w.2.2.1, wn w + 1, ups (wf w) (wn w) (nm c))) else rN 1 w
def A_clearText (w : WS) : RA := rO (nI (wn w)) (w.1, w.2.1, w.2.2.1, 0, wf w)
def A_errorPosition (w : WS) : RA := rO (oI (feZ (wn w) (wf w))) w
def A_load (w : WS) : RA := match feZ (wn w) (wf w) with
  | none => rO (nI (txZ (wn w) (wf w)).2) ((txZ (wn w) (wf w)).1, (0, wg w), (fun _ => none), wn w, wf w)
  | some _ => rN 1 w
def aboZ (z : ZS) (k : Nat) : Int32 := if k = 0 then nI (zn z) else if k = 1 then nI (zs z) else if k = 2 then nI (zc z) else if k = 3 then nI (zr z) else if k = 4 then nI (zt z) else if k = 5 then iI (erAll z)
  else if k = 6 then nI (zN (al z) (zt z)) else if k = 7 then nI (zM (zU z) (zt z)) else if k = 8 then nI (zM (zH z) (zt z)) else if k = 9 then nI (zN (fun k => (part z k).isSome) (zt z)) else zch z
def A_about (what : Int32) (w : WS) : RA := if inR what 11 then rO (aboZ (wz w) (nm what)) w else rN 1 w
def sqZ (z : ZS) (s k : Nat) : Int32 := if k = 0 then nI (zG z s) else if k = 1 then nI (sh (zn z) (pipZ z s)) else if k = 2 then iI (sqd (zG z s) (sh (zn z) (pipZ z s))) else if k = 3 then nI (plZ z s) else nI (pipZ z s)
def inQ (z : ZS) (x y : Int32) : Bool := inR x (zc z) && inR y (zr z)
def sqn (z : ZS) (x y : Int32) : Nat := nm y * zc z + nm x
def A_square (x y what : Int32) (w : WS) : RA := if inQ (wz w) x y then (if inR what 5 then rO (sqZ (wz w) (sqn (wz w) x y) (nm what)) w else rN 2 w) else rN 1 w
def plcZ (z : ZS) (k j : Nat) : Int32 := if j = 0 then nI (zF z k) else if j = 1 then nI (zO z k) else if j = 2 then nI (zT z k) else if j = 3 then nI (zU z k) else if j = 4 then iI (er z k) else if j = 5 then nI (zH z k) else bI (al z k)
def A_place (k what : Int32) (w : WS) : RA := if inR k (zt (wz w)) then (if inR what 7 then rO (plcZ (wz w) (nm k) (nm what)) w else rN 2 w) else rN 1 w
def tilZ (z : ZS) (t j : Nat) : Int32 := if j = 0 then nI (plo (zn z) t) else if j = 1 then nI (phi (zn z) t) else oI (whZ z t)
def A_tile (t what : Int32) (w : WS) : RA := if inR t (zt (wz w)) then (if inR what 3 then rO (tilZ (wz w) (nm t) (nm what)) w else rN 2 w) else rN 1 w
def A_begin (n s : Int32) (w : WS) : RA := if inB n 2 6 && inB s 1 2 then rO (nI (zt (startZ (nm n) (nm s)))) (wAct w (startZ (nm n) (nm s))) else rN 1 w
def A_grey (x y g : Int32) (w : WS) : RA := if inQ (wz w) x y then (if inB g 0 99 then rO (nI (zG (wz w) (sqn (wz w) x y))) (wAct w (greyZ (wz w) (sqn (wz w) x y) (nm g))) else rN 2 w) else rN 1 w
def A_fade (a c : Int32) (w : WS) : RA := if inB a 0 99 && inB c 0 99 then rO (iI (erAll (fadeZ (wz w) (nm a) (nm c)))) (wAct w (fadeZ (wz w) (nm a) (nm c))) else rN 1 w
def A_turn (k : Int32) (w : WS) : RA := if inR k (zt (wz w)) then (if zH (wz w) (nm k) = 0 then rO (iI (tgZ (wz w) (nm k))) (wAct w (turnZ (wz w) (nm k))) else rN 2 w) else rN 1 w
def A_swap (j k : Int32) (w : WS) : RA := if inR j (zt (wz w)) && inR k (zt (wz w)) then (if nm j = nm k then rN 2 w else if zH (wz w) (nm j) = 0 ∧ zH (wz w) (nm k) = 0 then rO (iI (sgZ (wz w) (nm j) (nm k))) (wAct w (swapZ (wz w) (nm j) (nm k))) else rN 3 w) else rN 1 w
def A_flip (x y : Int32) (w : WS) : RA := if inQ (wz w) x y then (match canF (wz w) (sqn (wz w) x y) with
  | some p => rO (iI (fgZ (wz w) p.1 p.2)) (wAct w (flipZ (wz w) p.1 p.2))
  | none => rN 2 w) else rN 1 w
def A_hold (k : Int32) (h : Bool) (w : WS) : RA := if inR k (zt (wz w)) then rO (nI (zM (zH (holdZ (wz w) (nm k) (if h then 1 else 0))) (zt (wz w)))) (wAct w (holdZ (wz w) (nm k) (if h then 1 else 0))) else rN 1 w
def A_lay (w : WS) : RA := rO (iI (erAll (wz w) - erAll (layZ (wz w)))) (wAct w (layZ (wz w)))
def A_improve (m : Int32) (w : WS) : RA := if inB m 1 20 then rO (iI (erAll (wz w) - erAll (impZ (nm m) (wz w)))) (wAct w (impZ (nm m) (wz w))) else rN 1 w
def A_undo (w : WS) : RA := if wk w = 0 then rN 1 w else rO (nI (wk w - 1)) (wg w (wk w - 1), (wk w - 1, wg w), w.2.2)
def A_gain (c : Int32) (w : WS) : RA := if inR c 30000 && posZ (wz w) (nm c) then rO (iI (gnZ (wz w) (nm c))) w else rN 1 w
def A_best (what : Int32) (w : WS) : RA := if inR what 2 then rO (if nm what = 0 then bN (bestZ (wz w)) else iI (bG (bestZ (wz w)))) w else rN 1 w
def A_ifImproved (m what : Int32) (w : WS) : RA := if inB m 1 20 && inR what 2 then rO (if nm what = 0 then iI (erAll (wz w) - erAll (impZ (nm m) (wz w))) else nI (impN (nm m) (wz w))) w else rN 1 w
def A_least (w : WS) : RA := rO (iI (leastZ (wz w))) w
def A_worst (r : Int32) (w : WS) : RA := if inR r (zt (wz w)) then rO (oI (worZ (wz w) (nm r))) w else rN 1 w
def A_fits (t : Int32) (w : WS) : RA := if inR t (zt (wz w)) then rO (nI (fitZ (wz w) (nm t))) w else rN 1 w
def scrL (n s : Nat) : Nat → Nat → ZS → Option Nat
  | 0, _, _ => none
  | fu + 1, i, z => if (grpZ z (s / 1000000 ^ (n - 1 - i) % 1000000)).1 then scrL n s fu (i + 1) (grpZ z (s / 1000000 ^ (n - 1 - i) % 1000000)).2 else some i
def inS (n : Nat) (s : Int64) : Bool := decide (0 ≤ s.toInt ∧ s.toInt < ((1000000 ^ n : Nat) : Int))
def A_runScript (n : Int32) (s : Int64) (w : WS) : RA := if inB n 1 3 && inS (nm n) s then rO (oI (scrL (nm n) s.toInt.toNat (nm n) 0 (wz w))) w else rN 1 w
def nxS (s : Int64) : Int64 := s * 6364136223846793005 + 1442695040888963407
def rnd (s : Int64) : Nat := (s.toUInt64 >>> 33).toNat
/-- over any step: the kernel must never unfold the products of the real one -/
def simG (nx : Int64 → Int64) (stp9 : ZS → Int64 → ZS) : Nat → Int64 → ZS → ZS
  | 0, _, z => z
  | m + 1, s, z => simG nx stp9 m (nx s) (stp9 z (nx s))
theorem simG_s (nx : Int64 → Int64) (stp9 : ZS → Int64 → ZS) (m : Nat) (s : Int64) (z : ZS) : simG nx stp9 (m + 1) s z = simG nx stp9 m (nx s) (stp9 z (nx s)) := rfl
def simR (z : ZS) (s : Int64) : ZS := simZ z (rnd s)
def simL (m : Nat) (s : Int64) (z : ZS) : ZS := simG nxS simR m s z
theorem simL_0 (s : Int64) (z : ZS) : simL 0 s z = z := rfl
theorem simL_s (m : Nat) (s : Int64) (z : ZS) : simL (m + 1) s z = simL m (nxS s) (simR z (nxS s)) := simG_s nxS simR m s z
def A_simulate (s : Int64) (m : Int32) (w : WS) : RA := if inB m 1 30 then rO (iI (erAll (simL (nm m) s (wz w)))) w else rN 1 w
def A_save (s : Int32) (w : WS) : RA := if inR s 2 then rO (iI (erAll (wz w))) (w.1, w.2.1, (fun i => if i = nm s then some (wz w) else wu w i), w.2.2.2) else rN 1 w
def A_restore (s : Int32) (w : WS) : RA := if inR s 2 then (match wu w (nm s) with
  | some y => rO (iI (erAll y)) (y, (0, wg w), w.2.2)
  | none => rN 2 w) else rN 1 w
theorem rnd_lt (s : Int64) : rnd s < 2147483648 := by
  unfold rnd
  rw [UInt64.toNat_shiftRight]
  have h := UInt64.toNat_lt s.toUInt64
  rw [show (33 : UInt64).toNat % 64 = 33 from rfl, Nat.shiftRight_eq_div_pow]
  omega
theorem rnd_eq (s : Int64) : (s.toUInt64 >>> ((nI 33).toInt64.toUInt64 &&& Int64.toUInt64 63)).toInt64.toInt32 = nI (rnd s) := by
  rw [show (nI 33).toInt64.toUInt64 &&& Int64.toUInt64 63 = 33 by decide]
  unfold rnd
  generalize s.toUInt64 >>> 33 = u
  have e : u.toInt64 = lI u.toNat := by
    apply Int64.toBitVec_inj.mp
    show u.toBitVec = BitVec.ofNat 64 u.toBitVec.toNat
    rw [BitVec.ofNat_toNat, BitVec.setWidth_eq]
  rw [e]
  exact lI_int
/-! every call keeps a world that is one -/
theorem rN_ok {k : Nat} {w : WS} (h : WOK w) : WOK (rN k w).2.2 := h
theorem zOT.z {z : ZS} (h : zOT z) : ZOK z := h.1
theorem grpZ_ot {z : ZS} (h : zOT z) (g : Nat) : zOT (grpZ z g).2 := ⟨grpZ_ok h.1 g, grpZ_tok h.1 h.2 g⟩
theorem simR_ot {z : ZS} (h : zOT z) (s : Int64) : zOT (simR z s) := ⟨simZ_ok h.1 _, simZ_tok h.1 h.2 _⟩
theorem simZ_ot {z : ZS} (h : zOT z) (r : Nat) : zOT (simZ z r) := ⟨simZ_ok h.1 r, simZ_tok h.1 h.2 r⟩
theorem canF_ex {z : ZS} (h : ZOK z) {s k l : Nat} (hq : canF z s = some (k, l)) : k < zt z ∧ zF z k = s ∧ part z k = some l ∧ zH z k = 0 ∧ zH z l = 0 := by
  unfold canF at hq
  cases hb1 : blk z s with
  | none => rw [hb1] at hq; cases hq
  | some k2 =>
    obtain ⟨b1, b2, b3⟩ := (blk_some h).mp hb1
    rw [hb1] at hq
    have hq : (match part z k2 with | none => none | some l => if zH z k2 = 0 ∧ zH z l = 0 then some (k2, l) else none) = some (k, l) := hq
    cases hp : part z k2 with
    | none => rw [hp] at hq; cases hq
    | some l2 =>
      rw [hp] at hq
      have hq : (if zH z k2 = 0 ∧ zH z l2 = 0 then some (k2, l2) else none) = some (k, l) := hq
      split at hq
      · rename_i hc
        cases hq; exact ⟨b1, b2, hp, hc.1, hc.2⟩
      · cases hq
theorem wok_append {c : Int32} {w : WS} (h : WOK w) : WOK (A_append c w).2.2 := by
  unfold A_append
  split
  · rename_i hc
    split
    · exact h
    · rename_i hn
      obtain ⟨c1, c2, c3⟩ := inB_ex hc (by omega)
      have h5 := h.2.2.2
      refine ⟨h.1, h.2.1, h.2.2.1, show wn w + 1 ≤ 120 by omega, fun i hi => ?_⟩
      show ups (wf w) (wn w) (nm c) i < 65536
      have hi : i < wn w + 1 := hi
      by_cases e : i = wn w
      · rw [e, ups_same]; omega
      · rw [ups_ne e]; exact h5.2 i (by omega)
  · exact h
theorem wok_clearText {w : WS} (h : WOK w) : WOK (A_clearText w).2.2 := ⟨h.1, h.2.1, h.2.2.1, Nat.zero_le _, fun i hi => absurd hi (Nat.not_lt_zero _)⟩
theorem exL_ot {n : Nat} {f : Nat → Nat} : ∀ (fu p : Nat) (z : ZS) (o : Nat), zOT z → feL n f fu p = none → zOT (exL n f fu p z o).1
  | 0, _, _, _, h, _ => h
  | fu + 1, p, z, o, h, he => by
    by_cases hp : p < n
    · rw [exL_go hp]
      cases hk : cmK (f p) with
      | none => rw [feL_no hp hk] at he; cases he
      | some ks =>
        cases hw : fw n f ks (p + 1) with
        | some w => rw [feL_bad hp hk hw] at he; cases he
        | none =>
          rw [feL_go hp hk hw] at he
          have hkl := cmK_L hk
          rw [hkl.1]
          refine exL_ot fu _ _ _ ⟨cmdZ_ok h.1 _ _ (fun i hi hi2 => ?_), cmdZ_tok h.1 h.2 _ _⟩ he
          have := (fw_none hw (i - 1) (by omega)).2.1
          rw [show p + 1 + (i - 1) = p + i by omega] at this
          exact this
    · rw [exL_stop hp]; exact h
theorem txZ_ot {n : Nat} {f : Nat → Nat} (he : feZ n f = none) : zOT (txZ n f).1 ∧ (2 ≤ dg n f 1 ∧ dg n f 1 ≤ 6 ∧ 1 ≤ dg n f 2 ∧ dg n f 2 ≤ 2) ∧ feL n f 120 3 = none ∧ fw n f [110, 115] 1 = none ∧ chT n f 0 = 68 := by
  unfold feZ at he
  split at he
  · rename_i hc
    cases hw : fw n f [110, 115] 1 with
    | some w => rw [hw] at he; cases he
    | none =>
      rw [hw] at he
      have he : feL n f 120 3 = none := he
      obtain ⟨w1, w2⟩ := fw_nn (as := [110]) (bs := [115]) hw
      have w2 : fw n f [115] 2 = none := w2
      have r1 := one_rng d1n w1
      have r2 := one_rng d1s w2
      exact ⟨exL_ot 120 3 _ 0 ⟨startZ_ok r1.1 r1.2 r2.1 r2.2, startZ_tok _ _⟩ he, ⟨r1.1, r1.2, r2.1, r2.2⟩, he, rfl, hc⟩
  · cases he
theorem wok_load {w : WS} (h : WOK w) : WOK (A_load w).2.2 := by
  unfold A_load
  cases he : feZ (wn w) (wf w) with
  | none => exact ⟨(txZ_ot he).1, ⟨Nat.zero_le _, fun i hi => absurd hi (Nat.not_lt_zero _)⟩, fun s y hy => (by cases hy), h.2.2.2⟩
  | some _ => exact h
theorem wok_begin {n s : Int32} {w : WS} (h : WOK w) : WOK (A_begin n s w).2.2 := by
  unfold A_begin
  split
  · rename_i hc
    rw [Bool.and_eq_true] at hc
    obtain ⟨c1, c2, c3⟩ := inB_ex hc.1 (by omega)
    obtain ⟨e1, e2, e3⟩ := inB_ex hc.2 (by omega)
    exact h.act ⟨startZ_ok c1 c2 e1 e2, startZ_tok _ _⟩
  · exact h
theorem wok_grey {x y g : Int32} {w : WS} (h : WOK w) : WOK (A_grey x y g w).2.2 := by
  unfold A_grey
  split
  · split
    · rename_i hc
      obtain ⟨c1, c2, c3⟩ := inB_ex hc (by omega)
      exact h.act ⟨greyZ_ok h.z _ c2, h.t⟩
    · exact h
  · exact h
theorem wok_fade {a c : Int32} {w : WS} (h : WOK w) : WOK (A_fade a c w).2.2 := by
  unfold A_fade
  split
  · rename_i hc
    rw [Bool.and_eq_true] at hc
    obtain ⟨c1, c2, c3⟩ := inB_ex hc.1 (by omega)
    obtain ⟨e1, e2, e3⟩ := inB_ex hc.2 (by omega)
    exact h.act ⟨fadeZ_ok h.z c2 e2, h.t⟩
  · exact h
theorem wok_turn {k : Int32} {w : WS} (h : WOK w) : WOK (A_turn k w).2.2 := by
  unfold A_turn
  split
  · split
    · exact h.act ⟨turnZ_ok h.z _, h.t⟩
    · exact h
  · exact h
theorem wok_swap {j k : Int32} {w : WS} (h : WOK w) : WOK (A_swap j k w).2.2 := by
  have hd := h.z.dims
  unfold A_swap
  split
  · rename_i hc
    rw [Bool.and_eq_true] at hc
    have c1 := inR_nm hc.1 (by omega)
    have c2 := inR_nm hc.2 (by omega)
    split
    · exact h
    · split
      · exact h.act ⟨swapZ_ok h.z c1.1 c2.1, swapZ_tok h.t c1.1 c2.1⟩
      · exact h
  · exact h
theorem wok_flip {x y : Int32} {w : WS} (h : WOK w) : WOK (A_flip x y w).2.2 := by
  unfold A_flip
  split
  · cases hq : canF (wz w) (sqn (wz w) x y) with
    | none => exact h
    | some p =>
      obtain ⟨k, l⟩ := p
      obtain ⟨c1, c2, c3, -⟩ := canF_ex h.z hq
      exact h.act ⟨flipZ_ok h.z c1 c3, flipZ_tok h.z h.t c1 c3⟩
  · exact h
theorem wok_hold {k : Int32} {v : Bool} {w : WS} (h : WOK w) : WOK (A_hold k v w).2.2 := by
  unfold A_hold
  split
  · exact h.act ⟨holdZ_ok h.z _ (by split <;> omega), h.t⟩
  · exact h
theorem wok_lay {w : WS} (h : WOK w) : WOK (A_lay w).2.2 := h.act ⟨layZ_ok h.z, layZ_tok h.z h.t⟩
theorem wok_improve {m : Int32} {w : WS} (h : WOK w) : WOK (A_improve m w).2.2 := by
  unfold A_improve
  split
  · exact h.act ⟨impZ_ok _ h.z, imp_tok h.z h.t _⟩
  · exact h
theorem wok_undo {w : WS} (h : WOK w) : WOK (A_undo w).2.2 := by
  unfold A_undo
  split
  · exact h
  · exact ⟨h.2.1.2 _ (by omega), ⟨by have := h.2.1.1; show wk w - 1 ≤ 14; omega, fun i hi => h.2.1.2 i (by have hi : i < wk w - 1 := hi; omega)⟩, h.2.2⟩
theorem wok_save {s : Int32} {w : WS} (h : WOK w) : WOK (A_save s w).2.2 := by
  unfold A_save
  split
  · refine ⟨h.1, h.2.1, fun i y hy => ?_, h.2.2.2⟩
    have hy : (if i = nm s then some (wz w) else wu w i) = some y := hy
    split at hy
    · cases hy; exact h.1
    · exact h.2.2.1 i y hy
  · exact h
theorem wok_restore {s : Int32} {w : WS} (h : WOK w) : WOK (A_restore s w).2.2 := by
  unfold A_restore
  split
  · cases hq : wu w (nm s) with
    | none => exact h
    | some y => exact ⟨h.2.2.1 _ _ hq, ⟨Nat.zero_le _, fun i hi => absurd hi (Nat.not_lt_zero _)⟩, h.2.2⟩
  · exact h
