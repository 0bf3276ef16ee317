/-! what the law's calls answer: the questions, the actions, the refusals -/
theorem bI_nI1 : bI true = nI 1 := rfl
section QV
variable {w : WS} {a b c : Int32}
theorem q_ab {j : Nat} (hj : j < 11) : cA 2 (nI j) b c w = (aboZ (wz w) j, w) := by
  have e : A_about (nI j) w = rO (aboZ (wz w) j) w := by
    unfold A_about
    rw [inR_nI (by omega) (by decide), if_pos (decide_eq_true hj), nm_nI (by omega)]
  show rA _ (A_about (nI j) w) = _
  rw [e]; rfl
theorem q_ab0 : cA 2 (nI 0) b c w = (nI (zn (wz w)), w) := q_ab (by decide)
theorem q_ab1 : cA 2 (nI 1) b c w = (nI (zs (wz w)), w) := q_ab (by decide)
theorem q_ab2 : cA 2 (nI 2) b c w = (nI (zc (wz w)), w) := q_ab (by decide)
theorem q_ab3 : cA 2 (nI 3) b c w = (nI (zr (wz w)), w) := q_ab (by decide)
theorem q_ab4 : cA 2 (nI 4) b c w = (nI (zt (wz w)), w) := q_ab (by decide)
theorem q_ab5 : cA 2 (nI 5) b c w = (iI (erAll (wz w)), w) := q_ab (by decide)
theorem q_ab6 : cA 2 (nI 6) b c w = (nI (zN (al (wz w)) (zt (wz w))), w) := q_ab (by decide)
theorem q_ab7 : cA 2 (nI 7) b c w = (nI (zM (zU (wz w)) (zt (wz w))), w) := q_ab (by decide)
theorem q_ab8 : cA 2 (nI 8) b c w = (nI (zM (zH (wz w)) (zt (wz w))), w) := q_ab (by decide)
theorem q_ab10 : cA 2 (nI 10) b c w = (zch (wz w), w) := q_ab (by decide)
theorem inQ_nI {z : ZS} (h : ZOK z) {x y : Nat} (hx : x < zc z) (hy : y < zr z) : inQ z (nI x) (nI y) = true := by
  have hd := h.dims
  unfold inQ
  rw [inR_nI (by omega) (by omega), inR_nI (by omega) (by omega), decide_eq_true hx, decide_eq_true hy]; rfl
theorem sqn_nI {z : ZS} {x y : Nat} (hx : x < 2147483648) (hy : y < 2147483648) : sqn z (nI x) (nI y) = y * zc z + x := by
  unfold sqn
  rw [nm_nI hx, nm_nI hy]
theorem q_sq (hO : WOK w) {x y j : Nat} (hx : x < zc (wz w)) (hy : y < zr (wz w)) (hj : j < 5) : cA 3 (nI x) (nI y) (nI j) w = (sqZ (wz w) (y * zc (wz w) + x) j, w) := by
  have hd := hO.z.dims
  have e : A_square (nI x) (nI y) (nI j) w = rO (sqZ (wz w) (y * zc (wz w) + x) j) w := by
    unfold A_square
    rw [inQ_nI hO.z hx hy, if_pos rfl, inR_nI (by omega) (by decide), if_pos (decide_eq_true hj), nm_nI (by omega), sqn_nI (by omega) (by omega)]
  show rA _ (A_square (nI x) (nI y) (nI j) w) = _
  rw [e]; rfl
/-- of the square s, by its column and its row -/
theorem q_sqs (hO : WOK w) {s j : Nat} (hs : s < zq (wz w)) (hj : j < 5) : cA 3 (nI (s % zc (wz w))) (nI (s / zc (wz w))) (nI j) w = (sqZ (wz w) s j, w) := by
  have hd := hO.z.dims
  have h1 : s % zc (wz w) < zc (wz w) := Nat.mod_lt _ (by omega)
  have h2 : s / zc (wz w) < zr (wz w) := Nat.div_lt_of_lt_mul hs
  have h3 := q_sq hO h1 h2 hj
  rw [Nat.mul_comm (s / zc (wz w)), Nat.div_add_mod] at h3
  exact h3
theorem q_pl (hO : WOK w) {k j : Nat} (hk : k < zt (wz w)) (hj : j < 7) : cA 4 (nI k) (nI j) c w = (plcZ (wz w) k j, w) := by
  have hd := hO.z.dims
  have e : A_place (nI k) (nI j) w = rO (plcZ (wz w) k j) w := by
    unfold A_place
    rw [inR_nI (by omega) (by omega), if_pos (decide_eq_true hk), inR_nI (by omega) (by decide), if_pos (decide_eq_true hj), nm_nI (by omega), nm_nI (by omega)]
  show rA _ (A_place (nI k) (nI j) w) = _
  rw [e]; rfl
theorem q_pl0 (hO : WOK w) {k : Nat} (hk : k < zt (wz w)) : cA 4 (nI k) (nI 0) c w = (nI (zF (wz w) k), w) := q_pl hO hk (by decide)
theorem q_pl1 (hO : WOK w) {k : Nat} (hk : k < zt (wz w)) : cA 4 (nI k) (nI 1) c w = (nI (zO (wz w) k), w) := q_pl hO hk (by decide)
theorem q_pl2 (hO : WOK w) {k : Nat} (hk : k < zt (wz w)) : cA 4 (nI k) (nI 2) c w = (nI (zT (wz w) k), w) := q_pl hO hk (by decide)
theorem q_pl3 (hO : WOK w) {k : Nat} (hk : k < zt (wz w)) : cA 4 (nI k) (nI 3) c w = (nI (zU (wz w) k), w) := q_pl hO hk (by decide)
theorem q_pl4 (hO : WOK w) {k : Nat} (hk : k < zt (wz w)) : cA 4 (nI k) (nI 4) c w = (iI (er (wz w) k), w) := q_pl hO hk (by decide)
theorem q_pl5 (hO : WOK w) {k : Nat} (hk : k < zt (wz w)) : cA 4 (nI k) (nI 5) c w = (nI (zH (wz w) k), w) := q_pl hO hk (by decide)
theorem q_pl6 (hO : WOK w) {k : Nat} (hk : k < zt (wz w)) : cA 4 (nI k) (nI 6) c w = (nI (if al (wz w) k then 1 else 0), w) := by
  rw [q_pl hO hk (by decide)]
  show (bI (al (wz w) k), w) = _
  cases al (wz w) k <;> rfl
theorem q_ti (hO : WOK w) {t j : Nat} (hk : t < zt (wz w)) (hj : j < 3) : cA 5 (nI t) (nI j) c w = (tilZ (wz w) t j, w) := by
  have hd := hO.z.dims
  have e : A_tile (nI t) (nI j) w = rO (tilZ (wz w) t j) w := by
    unfold A_tile
    rw [inR_nI (by omega) (by omega), if_pos (decide_eq_true hk), inR_nI (by omega) (by decide), if_pos (decide_eq_true hj), nm_nI (by omega), nm_nI (by omega)]
  show rA _ (A_tile (nI t) (nI j) w) = _
  rw [e]; rfl
theorem q_gain {n : Nat} (hn : n < 30000) (hp : posZ (wz w) n = true) : cA 14 (nI n) b c w = (iI (gnZ (wz w) n), w) := by
  have e : A_gain (nI n) w = rO (iI (gnZ (wz w) n)) w := by
    unfold A_gain
    rw [inR_nI (by omega) (by decide), nm_nI (by omega), decide_eq_true hn, hp, if_pos (show (true && true) = true from rfl)]
  show rA _ (A_gain (nI n) w) = _
  rw [e]; rfl
theorem q_gainT (hO : WOK w) {k : Nat} (hk : k < zt (wz w)) : cA 14 (nI k) b c w = (iI (tgZ (wz w) k), w) := by
  have hd := hO.z.dims
  obtain ⟨h1, h2⟩ := gn_turn hO.z hk
  rw [q_gain (by omega) h1, h2]
theorem q_gainS (hO : WOK w) {j k : Nat} (hjk : j < k) (hk : k < zt (wz w)) : cA 14 (nI (10000 + 100 * j + k)) b c w = (iI (sgZ (wz w) j k), w) := by
  have hd := hO.z.dims
  obtain ⟨h1, h2⟩ := gn_swap hO.z hjk hk
  rw [q_gain (by omega) h1, h2]
theorem q_gainF {s k l : Nat} (hs : s < 10000) (hb : blk (wz w) s = some k) (hp : part (wz w) k = some l) : cA 14 (nI (20000 + s)) b c w = (iI (fgZ (wz w) k l), w) := by
  obtain ⟨h1, h2⟩ := gn_flip (z := wz w) hs
  rw [q_gain (by omega) (by rw [h1, hb]; rfl), h2 k l hb hp]
theorem q_best0 : cA 15 (nI 0) b c w = (bN (bestZ (wz w)), w) := rfl
theorem q_best1 : cA 15 (nI 1) b c w = (iI (bG (bestZ (wz w))), w) := rfl
theorem inB_nI {k lo hi : Nat} (hk : k < 2147483648) : inB (nI k) lo hi = decide (lo ≤ k ∧ k ≤ hi) := by
  unfold inB
  rw [nI_toInt hk, decide_eq_decide]
  omega
theorem q_if0 {m : Nat} (h1 : 1 ≤ m) (h2 : m ≤ 20) : cA 16 (nI m) (nI 0) c w = (iI (erAll (wz w) - erAll (impZ m (wz w))), w) := by
  have e : A_ifImproved (nI m) (nI 0) w = rO (iI (erAll (wz w) - erAll (impZ m (wz w)))) w := by
    unfold A_ifImproved
    rw [inB_nI (by omega), decide_eq_true ⟨h1, h2⟩, inR_nI (by decide) (by decide), nm_nI (by omega), nm_nI (by omega)]
    rfl
  show rA _ (A_ifImproved (nI m) (nI 0) w) = _
  rw [e]; rfl
theorem q_if1 {m : Nat} (h1 : 1 ≤ m) (h2 : m ≤ 20) : cA 16 (nI m) (nI 1) c w = (nI (impN m (wz w)), w) := by
  have e : A_ifImproved (nI m) (nI 1) w = rO (nI (impN m (wz w))) w := by
    unfold A_ifImproved
    rw [inB_nI (by omega), decide_eq_true ⟨h1, h2⟩, inR_nI (by decide) (by decide), nm_nI (by omega), nm_nI (by omega)]
    rfl
  show rA _ (A_ifImproved (nI m) (nI 1) w) = _
  rw [e]; rfl
theorem q_worst (hO : WOK w) {r : Nat} (hr : r < zt (wz w)) : cA 17 (nI r) b c w = (oI (worZ (wz w) r), w) := by
  have hd := hO.z.dims
  have e : A_worst (nI r) w = rO (oI (worZ (wz w) r)) w := by
    unfold A_worst
    rw [inR_nI (by omega) (by omega), if_pos (decide_eq_true hr), nm_nI (by omega)]
  show rA _ (A_worst (nI r) w) = _
  rw [e]; rfl
/-! a question keeps the world, whatever it asks -/
theorem qk_ab : cA 2 a b c w = ((cA 2 a b c w).1, w) := Prod.ext rfl keep_about
theorem qk_sq : cA 3 a b c w = ((cA 3 a b c w).1, w) := Prod.ext rfl keep_square
theorem qk_pl : cA 4 a b c w = ((cA 4 a b c w).1, w) := Prod.ext rfl keep_place
theorem qk_ti : cA 5 a b c w = ((cA 5 a b c w).1, w) := Prod.ext rfl keep_tile
theorem qk_gain : cA 14 a b c w = ((cA 14 a b c w).1, w) := Prod.ext rfl keep_gain
theorem qk_best : cA 15 a b c w = ((cA 15 a b c w).1, w) := Prod.ext rfl keep_best
theorem qk_worst : cA 17 a b c w = ((cA 17 a b c w).1, w) := Prod.ext rfl keep_worst
/-! actions -/
theorem do_turn (hO : WOK w) {k : Nat} (hk : k < zt (wz w)) (h0 : zH (wz w) k = 0) : cA 9 (nI k) b c w = (iI (tgZ (wz w) k), wAct w (turnZ (wz w) k)) := by
  have hd := hO.z.dims
  have e : A_turn (nI k) w = rO (iI (tgZ (wz w) k)) (wAct w (turnZ (wz w) k)) := by
    unfold A_turn
    rw [inR_nI (by omega) (by omega), if_pos (decide_eq_true hk), nm_nI (by omega), if_pos h0]
  show rA _ (A_turn (nI k) w) = _
  rw [e]; rfl
theorem x_turnS (hO : WOK w) {k : Nat} (hk : k < zt (wz w)) (h0 : zH (wz w) k ≠ 0) : cA 9 (nI k) b c w = (cST, w) := by
  have hd := hO.z.dims
  have e : A_turn (nI k) w = rN 2 w := by
    unfold A_turn
    rw [inR_nI (by omega) (by omega), if_pos (decide_eq_true hk), nm_nI (by omega), if_neg h0]
  show rA _ (A_turn (nI k) w) = _
  rw [e]; rfl
theorem do_swap (hO : WOK w) {j k : Nat} (hj : j < zt (wz w)) (hk : k < zt (wz w)) (hjk : j ≠ k) (h0 : zH (wz w) j = 0 ∧ zH (wz w) k = 0) : cA 10 (nI j) (nI k) c w = (iI (sgZ (wz w) j k), wAct w (swapZ (wz w) j k)) := by
  have hd := hO.z.dims
  have e : A_swap (nI j) (nI k) w = rO (iI (sgZ (wz w) j k)) (wAct w (swapZ (wz w) j k)) := by
    unfold A_swap
    rw [inR_nI (by omega) (by omega), inR_nI (by omega) (by omega), decide_eq_true hj, decide_eq_true hk, if_pos (show (true && true) = true from rfl), nm_nI (by omega), nm_nI (by omega), if_neg hjk, if_pos h0]
  show rA _ (A_swap (nI j) (nI k) w) = _
  rw [e]; rfl
theorem x_swapS (hO : WOK w) {j k : Nat} (hj : j < zt (wz w)) (hk : k < zt (wz w)) (hjk : j ≠ k) (h0 : ¬ (zH (wz w) j = 0 ∧ zH (wz w) k = 0)) : cA 10 (nI j) (nI k) c w = (cST, w) := by
  have hd := hO.z.dims
  have e : A_swap (nI j) (nI k) w = rN 3 w := by
    unfold A_swap
    rw [inR_nI (by omega) (by omega), inR_nI (by omega) (by omega), decide_eq_true hj, decide_eq_true hk, if_pos (show (true && true) = true from rfl), nm_nI (by omega), nm_nI (by omega), if_neg hjk, if_neg h0]
  show rA _ (A_swap (nI j) (nI k) w) = _
  rw [e]; rfl
theorem do_flip (hO : WOK w) {x y k l : Nat} (hx : x < zc (wz w)) (hy : y < zr (wz w)) (hc : canF (wz w) (y * zc (wz w) + x) = some (k, l)) : cA 11 (nI x) (nI y) c w = (iI (fgZ (wz w) k l), wAct w (flipZ (wz w) k l)) := by
  have hd := hO.z.dims
  have e : A_flip (nI x) (nI y) w = rO (iI (fgZ (wz w) k l)) (wAct w (flipZ (wz w) k l)) := by
    unfold A_flip
    rw [inQ_nI hO.z hx hy, if_pos rfl, sqn_nI (by omega) (by omega), hc]
  show rA _ (A_flip (nI x) (nI y) w) = _
  rw [e]; rfl
theorem x_flipS (hO : WOK w) {x y : Nat} (hx : x < zc (wz w)) (hy : y < zr (wz w)) (hc : canF (wz w) (y * zc (wz w) + x) = none) : cA 11 (nI x) (nI y) c w = (cST, w) := by
  have hd := hO.z.dims
  have e : A_flip (nI x) (nI y) w = rN 2 w := by
    unfold A_flip
    rw [inQ_nI hO.z hx hy, if_pos rfl, sqn_nI (by omega) (by omega), hc]
  show rA _ (A_flip (nI x) (nI y) w) = _
  rw [e]; rfl
theorem do_imp {m : Nat} (h1 : 1 ≤ m) (h2 : m ≤ 20) : cA 12 (nI m) b c w = (iI (erAll (wz w) - erAll (impZ m (wz w))), wAct w (impZ m (wz w))) := by
  have e : A_improve (nI m) w = rO (iI (erAll (wz w) - erAll (impZ m (wz w)))) (wAct w (impZ m (wz w))) := by
    unfold A_improve
    rw [inB_nI (by omega), if_pos (decide_eq_true ⟨h1, h2⟩), nm_nI (by omega)]
  show rA _ (A_improve (nI m) w) = _
  rw [e]; rfl
/-- the world behind an action that is undone -/
def wBk (w : WS) : WS := (wz w, (wk (wRem w) - 1, wg (wRem w)), w.2.2)
theorem wk_rem (w : WS) (hO : WOK w) : 1 ≤ wk (wRem w) ∧ wk (wRem w) ≤ 14 := by
  have := hO.2.1.1
  rw [wRem_k]
  split <;> omega
theorem wg_rem (w : WS) : wg (wRem w) (wk (wRem w) - 1) = wz w := by
  rw [wRem_g, wRem_k]
  by_cases e : wk w = 14
  · rw [if_pos e, if_pos e, if_pos (by omega)]
  · rw [if_neg e, if_neg e, if_pos (by omega)]
theorem do_undo (hO : WOK w) (y : ZS) : cA 13 a b c (wAct w y) = (nI (wk (wRem w) - 1), wBk w) := by
  have h1 := wk_rem w hO
  have ek : wk (wAct w y) = wk (wRem w) := rfl
  have eg : wg (wAct w y) = wg (wRem w) := rfl
  have e : A_undo (wAct w y) = rO (nI (wk (wRem w) - 1)) (wBk w) := by
    unfold A_undo
    rw [ek, if_neg (by omega), eg, wg_rem]; rfl
  show rA _ (A_undo (wAct w y)) = _
  rw [e]; rfl
theorem wBk_z (w : WS) : wz (wBk w) = wz w := rfl
theorem wBk_ok (hO : WOK w) : WOK (wBk w) := by
  have h1 := wk_rem w hO
  have h2 := hO.rem
  exact ⟨hO.1, ⟨by show wk (wRem w) - 1 ≤ 14; omega, fun i hi => h2.2.1.2 i (by have hi : i < wk (wRem w) - 1 := hi; omega)⟩, hO.2.2⟩
/-! refusals -/
theorem x_append (h : inB a 0 255 = false) : cA 0 a b c w = (cAR, w) := by
  show rA _ (A_append a w) = _
  unfold A_append; rw [h]; rfl
theorem x_about (h : inR a 11 = false) : cA 2 a b c w = (cAR, w) := by
  show rA _ (A_about a w) = _
  unfold A_about; rw [h]; rfl
theorem inQ_x {z : ZS} (h : inR a (zc z) = false) : inQ z a b = false := by unfold inQ; rw [h]; rfl
theorem inQ_y {z : ZS} (h : inR b (zr z) = false) : inQ z a b = false := by unfold inQ; rw [h, Bool.and_false]
theorem x_squareI (h : inQ (wz w) a b = false) : cA 3 a b c w = (cIX, w) := by
  show rA _ (A_square a b c w) = _
  unfold A_square; rw [h]; rfl
theorem x_squareA (h : inQ (wz w) a b = true) (h2 : inR c 5 = false) : cA 3 a b c w = (cAR, w) := by
  show rA _ (A_square a b c w) = _
  unfold A_square; rw [h, h2]; rfl
theorem x_placeI (h : inR a (zt (wz w)) = false) : cA 4 a b c w = (cIX, w) := by
  show rA _ (A_place a b w) = _
  unfold A_place; rw [h]; rfl
theorem x_placeA (h : inR a (zt (wz w)) = true) (h2 : inR b 7 = false) : cA 4 a b c w = (cAR, w) := by
  show rA _ (A_place a b w) = _
  unfold A_place; rw [h, h2]; rfl
theorem x_tileI (h : inR a (zt (wz w)) = false) : cA 5 a b c w = (cIX, w) := by
  show rA _ (A_tile a b w) = _
  unfold A_tile; rw [h]; rfl
theorem x_tileA (h : inR a (zt (wz w)) = true) (h2 : inR b 3 = false) : cA 5 a b c w = (cAR, w) := by
  show rA _ (A_tile a b w) = _
  unfold A_tile; rw [h, h2]; rfl
theorem x_begin (h : inB a 2 6 = false ∨ inB b 1 2 = false) : cA 6 a b c w = (cAR, w) := by
  show rA _ (A_begin a b w) = _
  unfold A_begin
  have e : (inB a 2 6 && inB b 1 2) = false := by rcases h with h | h <;> rw [h] <;> simp
  rw [e]; rfl
theorem x_greyI (h : inQ (wz w) a b = false) : cA 7 a b c w = (cIX, w) := by
  show rA _ (A_grey a b c w) = _
  unfold A_grey; rw [h]; rfl
theorem x_greyA (h : inQ (wz w) a b = true) (h2 : inB c 0 99 = false) : cA 7 a b c w = (cAR, w) := by
  show rA _ (A_grey a b c w) = _
  unfold A_grey; rw [h, h2]; rfl
theorem x_fade (h : inB a 0 99 = false ∨ inB b 0 99 = false) : cA 8 a b c w = (cAR, w) := by
  show rA _ (A_fade a b w) = _
  unfold A_fade
  have e : (inB a 0 99 && inB b 0 99) = false := by rcases h with h | h <;> rw [h] <;> simp
  rw [e]; rfl
theorem x_turn (h : inR a (zt (wz w)) = false) : cA 9 a b c w = (cIX, w) := by
  show rA _ (A_turn a w) = _
  unfold A_turn; rw [h]; rfl
theorem x_swapI (h : inR a (zt (wz w)) = false ∨ inR b (zt (wz w)) = false) : cA 10 a b c w = (cIX, w) := by
  show rA _ (A_swap a b w) = _
  unfold A_swap
  have e : (inR a (zt (wz w)) && inR b (zt (wz w))) = false := by rcases h with h | h <;> rw [h] <;> simp
  rw [e]; rfl
theorem x_swapA (h : inR a (zt (wz w)) = true) : cA 10 a a c w = (cAR, w) := by
  show rA _ (A_swap a a w) = _
  unfold A_swap
  rw [h, if_pos rfl]; rfl
theorem x_flipI (h : inQ (wz w) a b = false) : cA 11 a b c w = (cIX, w) := by
  show rA _ (A_flip a b w) = _
  unfold A_flip; rw [h]; rfl
theorem x_improve (h : inB a 1 20 = false) : cA 12 a b c w = (cAR, w) := by
  show rA _ (A_improve a w) = _
  unfold A_improve; rw [h]; rfl
theorem x_gain (h : inR a 30000 = false) : cA 14 a b c w = (cAR, w) := by
  show rA _ (A_gain a w) = _
  unfold A_gain; rw [h]; rfl
theorem x_gainP {n : Nat} (hn : n < 2147483648) (h : posZ (wz w) n = false) : cA 14 (nI n) b c w = (cAR, w) := by
  show rA _ (A_gain (nI n) w) = _
  unfold A_gain
  rw [nm_nI hn, h, Bool.and_false]; rfl
theorem x_best (h : inR a 2 = false) : cA 15 a b c w = (cAR, w) := by
  show rA _ (A_best a w) = _
  unfold A_best; rw [h]; rfl
theorem x_if (h : inB a 1 20 = false ∨ inR b 2 = false) : cA 16 a b c w = (cAR, w) := by
  show rA _ (A_ifImproved a b w) = _
  unfold A_ifImproved
  have e : (inB a 1 20 && inR b 2) = false := by rcases h with h | h <;> rw [h] <;> simp
  rw [e]; rfl
theorem x_worst (h : inR a (zt (wz w)) = false) : cA 17 a b c w = (cIX, w) := by
  show rA _ (A_worst a w) = _
  unfold A_worst; rw [h]; rfl
theorem x_fits (h : inR a (zt (wz w)) = false) : cA 18 a b c w = (cIX, w) := by
  show rA _ (A_fits a w) = _
  unfold A_fits; rw [h]; rfl
theorem x_save (h : inR a 2 = false) : cA 19 a b c w = (cIX, w) := by
  show rA _ (A_save a w) = _
  unfold A_save; rw [h]; rfl
theorem x_restore (h : inR a 2 = false) : cA 20 a b c w = (cIX, w) := by
  show rA _ (A_restore a w) = _
  unfold A_restore; rw [h]; rfl
theorem x_hold (h : inR a (zt (wz w)) = false) (v : Bool) : vA [cIX] (A_hold a v w) = cIX ∧ (A_hold a v w).2.2 = w := by
  unfold A_hold; rw [h]; exact ⟨rfl, rfl⟩
theorem x_script {s : Int64} (h : (inB a 1 3 && inS (nm a) s) = false) : vA [cAR] (A_runScript a s w) = cAR ∧ (A_runScript a s w).2.2 = w := by
  unfold A_runScript; rw [h]; exact ⟨rfl, rfl⟩
theorem x_simulate {s : Int64} (h : inB a 1 30 = false) : vA [cAR] (A_simulate s a w) = cAR ∧ (A_simulate s a w).2.2 = w := by
  unfold A_simulate; rw [h]; exact ⟨rfl, rfl⟩
end QV
theorem neg_toInt {j : Nat} (hj : j < 1000) : ((-1 : Int32) - nI j).toInt = -1 - (j : Int) := by
  rw [iI_m1, iI_nat, iI_sub, iI_toInt (by omega) (by omega)]
theorem inR_ng {j n : Nat} (hj : j < 1000) : inR (-1 - nI j) n = false := by
  unfold inR
  rw [neg_toInt hj]
  exact decide_eq_false (by omega)
theorem inB_ng {j lo hi : Nat} (hj : j < 1000) : inB (-1 - nI j) lo hi = false := by
  unfold inB
  rw [neg_toInt hj]
  exact decide_eq_false (by omega)
theorem inR_big {k n : Nat} (hk : k < 2147483648) (hn : n ≤ k) : inR (nI k) n = false := by
  rw [inR_nI hk (by omega)]
  exact decide_eq_false (by omega)
theorem inR_in {k n : Nat} (hk : k < n) (hn : n < 2147483648) : inR (nI k) n = true := by
  rw [inR_nI (by omega) hn]
  exact decide_eq_true hk
theorem inB_out {k lo hi : Nat} (hk : k < 2147483648) (h : k < lo ∨ hi < k) : inB (nI k) lo hi = false := by
  rw [inB_nI hk]
  exact decide_eq_false (by omega)
theorem can_col {z : ZS} (h : ZOK z) {s : Nat} (hs : s % zc z = zc z - 1) : canF z s = none := by
  have hd := h.dims
  unfold canF
  cases hb1 : blk z s with
  | none => rfl
  | some k =>
    exfalso
    obtain ⟨b1, b2, b3⟩ := (blk_some h).mp hb1
    obtain ⟨l, hp⟩ := Option.isSome_iff_exists.mp b3
    obtain ⟨-, p2, p3⟩ := part_F h hp
    have f := h.fo b1
    cases ha : al z k with
    | true =>
      have q1 : zO z k = zF z k + 1 := of_decide_eq_true ha
      rw [b2] at f
      omega
    | false =>
      have := p3 ha
      rw [b2] at this
      exact this hs
theorem can_row {z : ZS} (h : ZOK z) {s : Nat} (hs : zq z ≤ s + zc z) : canF z s = none := by
  have hd := h.dims
  unfold canF
  cases hb1 : blk z s with
  | none => rfl
  | some k =>
    exfalso
    obtain ⟨b1, b2, b3⟩ := (blk_some h).mp hb1
    obtain ⟨l, hp⟩ := Option.isSome_iff_exists.mp b3
    have hl := part_lt h hp
    obtain ⟨g1, g2, g3, g4⟩ := part_geo h b1 hp
    have f := h.fo b1
    have f2 := h.fo hl
    have hst : stp z k = if al z k then zc z else 1 := rfl
    cases ha : al z k with
    | true =>
      rw [ha] at hst
      have hst : stp z k = zc z := hst
      have := h.fq hl
      omega
    | false =>
      have q1 : ¬ zO z k = zF z k + 1 := of_decide_eq_false ha
      omega
theorem canF_of {z : ZS} {s k l : Nat} (hb : blk z s = some k) (hp : part z k = some l) : canF z s = if zH z k = 0 ∧ zH z l = 0 then some (k, l) else none := by
  unfold canF
  rw [hb]
  show (match part z k with | none => none | some l => if zH z k = 0 ∧ zH z l = 0 then some (k, l) else none) = _
  rw [hp]
