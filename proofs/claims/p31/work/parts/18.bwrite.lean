theorem bii_X0_1 {M : Mem} {b : Nat} {S : BS} {v : Int32} : mset (bset M b S) b (cO 0 ([.ref (b + 1), .int (S.1 0), .int (S.1 1), .int (S.1 2), .int (S.1 3), .ref (b + 8), .ref (b + 9), .ref (b + 10), .ref (b + 11), .ref (b + 12), .ref (b + 13), .ref (b + 20), .ref (b + 21)].set 1 (.int v))) = bset M b (ii S 0 v) := bset_mset (j := 0) (by decide) rfl
theorem bii_X0_2 {M : Mem} {b : Nat} {S : BS} {v : Int32} : mset (bset M b S) b (cO 0 ([.ref (b + 1), .int (S.1 0), .int (S.1 1), .int (S.1 2), .int (S.1 3), .ref (b + 8), .ref (b + 9), .ref (b + 10), .ref (b + 11), .ref (b + 12), .ref (b + 13), .ref (b + 20), .ref (b + 21)].set 2 (.int v))) = bset M b (ii S 1 v) := bset_mset (j := 0) (by decide) rfl
theorem bii_X0_3 {M : Mem} {b : Nat} {S : BS} {v : Int32} : mset (bset M b S) b (cO 0 ([.ref (b + 1), .int (S.1 0), .int (S.1 1), .int (S.1 2), .int (S.1 3), .ref (b + 8), .ref (b + 9), .ref (b + 10), .ref (b + 11), .ref (b + 12), .ref (b + 13), .ref (b + 20), .ref (b + 21)].set 3 (.int v))) = bset M b (ii S 2 v) := bset_mset (j := 0) (by decide) rfl
theorem bii_X0_4 {M : Mem} {b : Nat} {S : BS} {v : Int32} : mset (bset M b S) b (cO 0 ([.ref (b + 1), .int (S.1 0), .int (S.1 1), .int (S.1 2), .int (S.1 3), .ref (b + 8), .ref (b + 9), .ref (b + 10), .ref (b + 11), .ref (b + 12), .ref (b + 13), .ref (b + 20), .ref (b + 21)].set 4 (.int v))) = bset M b (ii S 3 v) := bset_mset (j := 0) (by decide) rfl
theorem bii_X5_0 {M : Mem} {b : Nat} {S : BS} {v : Int32} : mset (bset M b S) (b + 1) (cO 4 ([.int (S.1 4), .int (S.1 5), .int (S.1 6), .ref (b + 2), .ref (b + 3), .ref (b + 4), .ref (b + 5), .ref (b + 6), .ref (b + 7)].set 0 (.int v))) = bset M b (ii S 4 v) := bset_mset (by decide) rfl
theorem bii_X5_1 {M : Mem} {b : Nat} {S : BS} {v : Int32} : mset (bset M b S) (b + 1) (cO 4 ([.int (S.1 4), .int (S.1 5), .int (S.1 6), .ref (b + 2), .ref (b + 3), .ref (b + 4), .ref (b + 5), .ref (b + 6), .ref (b + 7)].set 1 (.int v))) = bset M b (ii S 5 v) := bset_mset (by decide) rfl
theorem bii_X5_2 {M : Mem} {b : Nat} {S : BS} {v : Int32} : mset (bset M b S) (b + 1) (cO 4 ([.int (S.1 4), .int (S.1 5), .int (S.1 6), .ref (b + 2), .ref (b + 3), .ref (b + 4), .ref (b + 5), .ref (b + 6), .ref (b + 7)].set 2 (.int v))) = bset M b (ii S 6 v) := bset_mset (by decide) rfl
theorem bii_X3_0 {M : Mem} {b : Nat} {S : BS} {v : Int32} : mset (bset M b S) (b + 13) (cO 2 ([.int (S.1 7), .int (S.1 8), .ref (b + 14), .ref (b + 15), .ref (b + 16), .ref (b + 17), .ref (b + 18), .ref (b + 19)].set 0 (.int v))) = bset M b (ii S 7 v) := bset_mset (by decide) rfl
theorem bii_X3_1 {M : Mem} {b : Nat} {S : BS} {v : Int32} : mset (bset M b S) (b + 13) (cO 2 ([.int (S.1 7), .int (S.1 8), .ref (b + 14), .ref (b + 15), .ref (b + 16), .ref (b + 17), .ref (b + 18), .ref (b + 19)].set 1 (.int v))) = bset M b (ii S 8 v) := bset_mset (by decide) rfl
theorem InvB.setG {S : BS} {z : ZS} {g0 g : Nat → Nat} {f : Nat → Int32} (h : InvB S (zset z 0 g0)) (hf : ∀ s, s < zq z → f s = nI (g s)) : InvB (ia S 2 f) (zset z 0 g) := ⟨h.1, hf, h.2.2⟩
theorem InvB.setT {S : BS} {z : ZS} {g : Nat → Nat} {f : Nat → Int32} (h : InvB S z) (hf : ∀ s, s < zt z → f s = nI (g s)) : InvB (ia S 5 f) (zset z 3 g) := ⟨h.1, h.2.1, h.2.2.1, h.2.2.2.1, hf, h.2.2.2.2.2⟩
theorem InvB.setU {S : BS} {z : ZS} {g : Nat → Nat} {f : Nat → Int32} (h : InvB S z) (hf : ∀ s, s < zt z → f s = nI (g s)) : InvB (ia S 6 f) (zset z 4 g) := ⟨h.1, h.2.1, h.2.2.1, h.2.2.2.1, h.2.2.2.2.1, hf, h.2.2.2.2.2.2⟩
theorem InvB.setH {S : BS} {z : ZS} {g : Nat → Nat} {f : Nat → Int32} (h : InvB S z) (hf : ∀ s, s < zt z → f s = nI (g s)) : InvB (ia S 7 f) (zset z 5 g) := ⟨h.1, h.2.1, h.2.2.1, h.2.2.2.1, h.2.2.2.2.1, h.2.2.2.2.2.1, hf, h.2.2.2.2.2.2.2⟩
theorem InvB.chg {S : BS} {z : ZS} (h : InvB S z) : InvB (ii S 6 (S.1 6 + 1)) (zchg z) := ⟨⟨h.c0, h.c1, h.c2, h.c3, h.c4, h.c5, by show S.1 6 + 1 = zch z + 1; rw [h.c6]⟩, h.2⟩
theorem ZOK.setG {z : ZS} {g : Nat → Nat} (h : ZOK z) (hg : ∀ s, s < zq z → g s ≤ 99) : ZOK (zset z 0 g) := ⟨h.1, hg, h.2.2⟩
theorem ZOK.setU {z : ZS} {g : Nat → Nat} (h : ZOK z) (hg : ∀ s, s < zt z → g s ≤ 1) : ZOK (zset z 4 g) := ⟨h.1, h.2.1, h.2.2.1, h.2.2.2.1, h.2.2.2.2.1, h.2.2.2.2.2.1, h.2.2.2.2.2.2.1, h.2.2.2.2.2.2.2.1, hg, h.2.2.2.2.2.2.2.2.2⟩
theorem ZOK.setH {z : ZS} {g : Nat → Nat} (h : ZOK z) (hg : ∀ s, s < zt z → g s ≤ 1) : ZOK (zset z 5 g) := ⟨h.1, h.2.1, h.2.2.1, h.2.2.2.1, h.2.2.2.2.1, h.2.2.2.2.2.1, h.2.2.2.2.2.2.1, h.2.2.2.2.2.2.2.1, h.2.2.2.2.2.2.2.2.1, hg⟩
theorem ZOK.setT {z : ZS} {g : Nat → Nat} (h : ZOK z) (h1 : ∀ s, s < zt z → g s < zt z) : ZOK (zset z 3 g) := ⟨h.1, h.2.1, h.2.2.1, h.2.2.2.1, h.2.2.2.2.1, h.2.2.2.2.2.1, h.2.2.2.2.2.2.1, h1, h.2.2.2.2.2.2.2.2⟩
theorem ZOK.chg {z : ZS} (h : ZOK z) : ZOK (zchg z) := h
theorem ups_same {f : Nat → Nat} {k v : Nat} : ups f k v k = v := by simp [ups]
theorem ups_ne {f : Nat → Nat} {k v j : Nat} (h : j ≠ k) : ups f k v j = f j := by simp [ups, h]
theorem upd_ups {f : Nat → Int32} {g : Nat → Nat} {n k v : Nat} {x : Int32} (h : ∀ j, j < n → f j = nI (g j)) (hv : x = nI v) : ∀ j, j < n → upd f k x j = nI (ups g k v j) := by
  intro j hj
  by_cases e : j = k
  · rw [e, upd_same, ups_same, hv]
  · rw [upd_ne e, ups_ne e]; exact h j hj
theorem ups_le {g : Nat → Nat} {n k v m : Nat} (h : ∀ j, j < n → g j ≤ m) (hv : v ≤ m) : ∀ j, j < n → ups g k v j ≤ m := by
  intro j hj
  by_cases e : j = k
  · rw [e, ups_same]; exact hv
  · rw [ups_ne e]; exact h j hj
def turnZ (z : ZS) (k : Nat) : ZS := zchg (zset z 4 (ups (zU z) k (1 - zU z k)))
def holdZ (z : ZS) (k v : Nat) : ZS := zset z 5 (ups (zH z) k v)
def greyZ (z : ZS) (s v : Nat) : ZS := zset z 0 (ups (zG z) s v)
def fadV (z : ZS) (a c s : Nat) : Nat := (a * (zc z + zr z - 2 - (s % zc z + s / zc z)) + c * (s % zc z + s / zc z)) / (zc z + zr z - 2)
def fadeZ (z : ZS) (a c : Nat) : ZS := zset z 0 (fadV z a c)
def bet (z : ZS) (f o t : Nat) : Nat := if e4 z f o t 1 < e4 z f o t 0 then 1 else 0
def layW (z : ZS) (k : Nat) : ZS := zset z 4 (ups (zU z) k (bet z (zF z k) (zO z k) (zT z k)))
def exT (z : ZS) (j k : Nat) : ZS := zset z 3 (ups (ups (zT z) j (zT z k)) k (zT z j))
def swapZ (z : ZS) (j k : Nat) : ZS := zchg (layW (layW (exT z j k) j) k)
theorem turnZ_ok {z : ZS} (h : ZOK z) (k : Nat) : ZOK (turnZ z k) := (h.setU (ups_le (fun _ hj => h.u hj) (by omega))).chg
theorem holdZ_ok {z : ZS} (h : ZOK z) (k : Nat) {v : Nat} (hv : v ≤ 1) : ZOK (holdZ z k v) := h.setH (ups_le (fun _ hj => h.h hj) hv)
theorem greyZ_ok {z : ZS} (h : ZOK z) (s : Nat) {v : Nat} (hv : v ≤ 99) : ZOK (greyZ z s v) := h.setG (ups_le (fun _ hj => h.g hj) hv)
theorem bet_le (z : ZS) (f o t : Nat) : bet z f o t ≤ 1 := by unfold bet; split <;> omega
theorem layW_ok {z : ZS} (h : ZOK z) (k : Nat) : ZOK (layW z k) := h.setU (ups_le (fun _ hj => h.u hj) (bet_le _ _ _ _))
theorem exT_ok {z : ZS} (h : ZOK z) {j k : Nat} (hj : j < zt z) (hk : k < zt z) : ZOK (exT z j k) := by
  refine h.setT (fun s hs => ?_)
  · by_cases e1 : s = k
    · rw [e1, ups_same]; exact h.t hj
    · rw [ups_ne e1]
      by_cases e2 : s = j
      · rw [e2, ups_same]; exact h.t hk
      · rw [ups_ne e2]; exact h.t hs
theorem exT_tok {z : ZS} (h : TOK z) {j k : Nat} (hj : j < zt z) (hk : k < zt z) : TOK (exT z j k) := by
  intro a c ha hc e
  · have key : ∀ s, s < zt z → ups (ups (zT z) j (zT z k)) k (zT z j) s = zT z (if s = k then j else if s = j then k else s) := by
      intro s hs
      by_cases e1 : s = k
      · rw [e1, ups_same, if_pos rfl]
      · rw [ups_ne e1, if_neg e1]
        by_cases e2 : s = j
        · rw [e2, ups_same, if_pos rfl]
        · rw [ups_ne e2, if_neg e2]
    have e : ups (ups (zT z) j (zT z k)) k (zT z j) a = ups (ups (zT z) j (zT z k)) k (zT z j) c := e
    rw [key a ha, key c hc] at e
    have ha : a < zt z := ha
    have hc : c < zt z := hc
    have := h _ _ (by split; exact hj; split; exact hk; exact ha) (by split; exact hj; split; exact hk; exact hc) e
    by_cases a1 : a = k <;> by_cases a2 : a = j <;> by_cases c1 : c = k <;> by_cases c2 : c = j <;> by_cases hjk : j = k <;> simp [a1, a2, c1, c2, hjk] at this ⊢ <;> omega
theorem swapZ_ok {z : ZS} (h : ZOK z) {j k : Nat} (hj : j < zt z) (hk : k < zt z) : ZOK (swapZ z j k) := (layW_ok (layW_ok (exT_ok h hj hk) j) k).chg
theorem fad_le {z : ZS} (h : ZOK z) {a c s : Nat} (ha : a ≤ 99) (hc : c ≤ 99) (hs : s < zq z) : s % zc z + s / zc z ≤ zc z + zr z - 2 ∧ a * (zc z + zr z - 2 - (s % zc z + s / zc z)) + c * (s % zc z + s / zc z) ≤ 99 * (zc z + zr z - 2) := by
  have hd := h.dims
  have h1 : s % zc z < zc z := Nat.mod_lt _ (by omega)
  have h2 : s / zc z < zr z := Nat.div_lt_of_lt_mul hs
  have h3 : s % zc z + s / zc z ≤ zc z + zr z - 2 := by omega
  refine ⟨h3, ?_⟩
  have e1 := Nat.mul_le_mul_right (zc z + zr z - 2 - (s % zc z + s / zc z)) ha
  have e2 := Nat.mul_le_mul_right (s % zc z + s / zc z) hc
  have e3 : 99 * (zc z + zr z - 2 - (s % zc z + s / zc z)) + 99 * (s % zc z + s / zc z) = 99 * (zc z + zr z - 2) := by rw [← Nat.mul_add]; congr 1; omega
  omega
theorem fadeZ_ok {z : ZS} (h : ZOK z) {a c : Nat} (ha : a ≤ 99) (hc : c ≤ 99) : ZOK (fadeZ z a c) := by
  refine h.setG (fun s hs => ?_)
  have hd := h.dims
  have := (fad_le h ha hc hs).2
  unfold fadV
  exact Nat.div_le_of_le_mul (by rw [Nat.mul_comm (zc z + zr z - 2) 99]; exact this)
set_option maxRecDepth 20000 in
theorem s_isGrey {M : Mem} {x : Int32} : Spec mX7_isGrey 1 0 0 [.int x] M (some (.int (bI (inR x 100)))) M := by
  refine Spec_of [some (.int x)] (by decide) (Nat.le_of_ble_eq_true rfl) rfl ?_
  rcases ix_or x 100 (by decide) with ⟨i, hi, rfl⟩ | h | h
  · refine r_iload0 (pc := 0) dX7_isGrey_0 ?_
    refine n_if_lt (pc := 1) 14 (by decide) dX7_isGrey_1 (by omega) ?_
    refine r_iload0 (pc := 4) dX7_isGrey_4 ?_
    refine n_bipush (pc := 5) 99 (by decide) dX7_isGrey_5 ?_
    refine n_icmp_gt (pc := 7) 14 (by decide) dX7_isGrey_7 (by omega) (by omega) (fun hc7 => absurd hc7 (by omega)) (fun hc7 => ?_)
    refine n_iconst_1 (pc := 10) dX7_isGrey_10 ?_
    refine r_goto (pc := 11) 15 (by decide) dX7_isGrey_11 ?_
    exact r_ireturn (pc := 15) false rfl rfl (by decide) dX7_isGrey_15 (Nat.zero_le _) (Nat.zero_le _) (Or.inl rfl) rfl (by rw [inR_y hi (by decide)]; rfl) rfl
  · refine r_iload0 (pc := 0) dX7_isGrey_0 ?_
    refine r_if_lt (pc := 1) 14 (by decide) dX7_isGrey_1 (fun _ => ?_) (fun h9 => absurd h h9)
    refine n_iconst_0 (pc := 14) dX7_isGrey_14 ?_
    exact r_ireturn (pc := 15) false rfl rfl (by decide) dX7_isGrey_15 (Nat.zero_le _) (Nat.zero_le _) (Or.inl rfl) rfl (by rw [inR_neg h]; rfl) rfl
  · refine r_iload0 (pc := 0) dX7_isGrey_0 ?_
    refine r_if_lt (pc := 1) 14 (by decide) dX7_isGrey_1 (fun h9 => absurd h9 (ne_ge h (by decide))) (fun _ => ?_)
    refine r_iload0 (pc := 4) dX7_isGrey_4 ?_
    refine n_bipush (pc := 5) 99 (by decide) dX7_isGrey_5 ?_
    refine r_icmp_gt (pc := 7) 14 (by decide) dX7_isGrey_7 (fun _ => ?_) (fun h9 => ?_)
    · refine n_iconst_0 (pc := 14) dX7_isGrey_14 ?_
      exact r_ireturn (pc := 15) false rfl rfl (by decide) dX7_isGrey_15 (Nat.zero_le _) (Nat.zero_le _) (Or.inl rfl) rfl (by rw [inR_ge h (by decide)]; rfl) rfl
    · refine absurd ?_ h9
      have := Int32.le_iff_toInt_le.mp h
      rw [Int32.lt_iff_toInt_lt]
      rw [nI_toInt (by decide)] at this ⊢
      omega
section BWRITE
variable {M : Mem} {b : Nat} {S : BS} {z : ZS}
set_option maxRecDepth 20000 in
theorem s_turnPlace (hI : InvB S z) (hZ : ZOK z) {k : Nat} (hk : k < zt z) : SpecP mX0_turnPlace 2 0 0 [.ref b, .int (nI k)] (bset M b S) (tB none M b (turnZ z k)) := by
  have hd := hZ.dims
  have hu := hZ.u hk
  refine Spec_of [some (.ref b), some (.int (nI k))] (by decide) (Nat.le_of_ble_eq_true rfl) rfl ?_
  refine r_aload0 (pc := 0) dX0_turnPlace_0 ?_
  refine r_getf (pc := 1) fl_X0_12 dX0_turnPlace_1 (bget0 rfl) rfl ?_
  refine r_getf (pc := 4) fl_X0_66 dX0_turnPlace_4 (bget rfl) rfl ?_
  refine r_iload1 (pc := 7) dX0_turnPlace_7 ?_
  refine n_iconst_1 (pc := 8) dX0_turnPlace_8 ?_
  refine r_aload0 (pc := 9) dX0_turnPlace_9 ?_
  refine r_getf (pc := 10) fl_X0_12 dX0_turnPlace_10 (bget0 rfl) rfl ?_
  refine r_getf (pc := 13) fl_X0_66 dX0_turnPlace_13 (bget rfl) rfl ?_
  refine r_iload1 (pc := 16) dX0_turnPlace_16 ?_
  refine r_callN2i (pc := 17) lk_X0_115 dX0_turnPlace_17 (s_at (bget rfl) (by omega) (by decide) (hI.U hk)) (by decide) (Nat.le_of_ble_eq_true rfl) ⟨Nat.zero_le _, Nat.zero_le _⟩ ?_
  refine n_isub (pc := 20) dX0_turnPlace_20 (by omega) ?_
  refine r_callN3v (pc := 21) lk_X0_85 dX0_turnPlace_21 (s_putB (j := 6) (by decide) rfl (fun _ => rfl) (by omega) (by decide)) (by decide) (Nat.le_of_ble_eq_true rfl) ⟨Nat.zero_le _, Nat.zero_le _⟩ ?_
  refine r_aload0 (pc := 24) dX0_turnPlace_24 ?_
  refine r_getf (pc := 25) fl_X0_12 dX0_turnPlace_25 (bget0 rfl) rfl ?_
  refine r_dup (pc := 28) dX0_turnPlace_28 rfl ?_
  refine r_getf (pc := 29) fl_X0_54 dX0_turnPlace_29 (bget rfl) rfl ?_
  refine n_iconst_1 (pc := 32) dX0_turnPlace_32 ?_
  first | refine n_iadd (pc := 33) dX0_turnPlace_33 ?_ | refine z_iadd (pc := 33) dX0_turnPlace_33 ?_ | refine r_iadd (pc := 33) dX0_turnPlace_33 ?_
  refine r_putfI (pc := 34) fl_X0_54 dX0_turnPlace_34 (bget rfl) (Nat.le_of_ble_eq_true rfl) ?_
  refine G_M bii_X5_2 ?_
  exact p_return (pc := 37) false rfl rfl dX0_turnPlace_37 (Nat.zero_le _) (Nat.zero_le _) (Or.inl rfl) ⟨rfl, _, (hI.setU (upd_ups (fun _ h => hI.U h) rfl)).chg, rfl⟩
set_option maxRecDepth 20000 in
theorem s_layBetterWay (hI : InvB S z) (hZ : ZOK z) {k : Nat} (hk : k < zt z) : SpecP mX0_layBetterWay 3 0 0 [.ref b, .int (nI k)] (bset M b S) (tB none M b (layW z k)) := by
  have hd := hZ.dims
  have e0 := hZ.ekB (u := 0) hk
  have e1 := hZ.ekB (u := 1) hk
  refine Spec_of [some (.ref b), some (.int (nI k))] (by decide) (Nat.le_of_ble_eq_true rfl) rfl ?_
  refine r_aload0 (pc := 0) dX0_layBetterWay_0 ?_
  refine r_getf (pc := 1) fl_X0_12 dX0_layBetterWay_1 (bget0 rfl) rfl ?_
  refine r_getf (pc := 4) fl_X0_66 dX0_layBetterWay_4 (bget rfl) rfl ?_
  refine r_iload1 (pc := 7) dX0_layBetterWay_7 ?_
  refine r_aload0 (pc := 8) dX0_layBetterWay_8 ?_
  refine r_iload1 (pc := 9) dX0_layBetterWay_9 ?_
  refine n_iconst_0 (pc := 10) dX0_layBetterWay_10 ?_
  refine r_callV2i (pc := 11) lk_X0_123 dX0_layBetterWay_11 (bget0 rfl) (s_errorLaid hI hZ hk (by omega)) (by decide) (Nat.le_of_ble_eq_true rfl) ⟨Nat.zero_le _, Nat.zero_le _⟩ ?_
  refine r_aload0 (pc := 14) dX0_layBetterWay_14 ?_
  refine r_iload1 (pc := 15) dX0_layBetterWay_15 ?_
  refine n_iconst_1 (pc := 16) dX0_layBetterWay_16 ?_
  refine r_callV2i (pc := 17) lk_X0_123 dX0_layBetterWay_17 (bget0 rfl) (s_errorLaid hI hZ hk (by omega)) (by decide) (Nat.le_of_ble_eq_true rfl) ⟨Nat.zero_le _, Nat.zero_le _⟩ ?_
  have e : bet z (zF z k) (zO z k) (zT z k) = if ek z k 1 < ek z k 0 then 1 else 0 := rfl
  refine z_icmp_le (pc := 20) 27 (by decide) dX0_layBetterWay_20 (by omega) (by omega) (by omega) (by omega) (fun h9 => ?_) (fun h9 => ?_)
  · refine n_iconst_0 (pc := 27) dX0_layBetterWay_27 ?_
    refine r_callN3v (pc := 28) lk_X0_85 dX0_layBetterWay_28 (s_putB (j := 6) (by decide) rfl (fun _ => rfl) (by omega) (by decide)) (by decide) (Nat.le_of_ble_eq_true rfl) ⟨Nat.zero_le _, Nat.zero_le _⟩ ?_
    exact p_return (pc := 31) false rfl rfl dX0_layBetterWay_31 (Nat.zero_le _) (Nat.zero_le _) (Or.inl rfl) ⟨rfl, _, hI.setU (upd_ups (fun _ h => hI.U h) (by rw [e, if_neg (by omega)])), rfl⟩
  · refine n_iconst_1 (pc := 23) dX0_layBetterWay_23 ?_
    refine r_goto (pc := 24) 28 (by decide) dX0_layBetterWay_24 ?_
    refine r_callN3v (pc := 28) lk_X0_85 dX0_layBetterWay_28 (s_putB (j := 6) (by decide) rfl (fun _ => rfl) (by omega) (by decide)) (by decide) (Nat.le_of_ble_eq_true rfl) ⟨Nat.zero_le _, Nat.zero_le _⟩ ?_
    exact p_return (pc := 31) false rfl rfl dX0_layBetterWay_31 (Nat.zero_le _) (Nat.zero_le _) (Or.inl rfl) ⟨rfl, _, hI.setU (upd_ups (fun _ h => hI.U h) (by rw [e, if_pos (by omega)])), rfl⟩
theorem s_exchangeB {j n i k : Nat} (hj : j < 22) (hc : (bcs b S)[j]? = some (cI n (S.2 j))) (hs : ∀ f, bcs b (ia S j f) = (bcs b S).set j (cI n f)) (hi : i < n) (hk : k < n) (hn : n < 2147483648) : Spec mX7_exchange 1 0 0 [.ref (b + j), .int (nI i), .int (nI k)] (bset M b S) none (bset M b (ia S j (upd (upd (S.2 j) i (S.2 j k)) k (S.2 j i)))) := by
  have h := s_exchange (bget (M := M) hc) hi hk hn
  rw [bset_mset hj (hs _)] at h
  exact h
set_option maxRecDepth 20000 in
theorem s_swapPlaces (hI : InvB S z) (hZ : ZOK z) {j k : Nat} (hj : j < zt z) (hk : k < zt z) : SpecP mX0_swapPlaces 4 0 0 [.ref b, .int (nI j), .int (nI k)] (bset M b S) (tB none M b (swapZ z j k)) := by
  have hd := hZ.dims
  refine Spec_of [some (.ref b), some (.int (nI j)), some (.int (nI k))] (by decide) (Nat.le_of_ble_eq_true rfl) rfl ?_
  refine r_aload0 (pc := 0) dX0_swapPlaces_0 ?_
  refine r_getf (pc := 1) fl_X0_12 dX0_swapPlaces_1 (bget0 rfl) rfl ?_
  refine r_getf (pc := 4) fl_X0_82 dX0_swapPlaces_4 (bget rfl) rfl ?_
  refine r_iload1 (pc := 7) dX0_swapPlaces_7 ?_
  refine r_iload2 (pc := 8) dX0_swapPlaces_8 ?_
  refine r_callN3v (pc := 9) lk_X0_174 dX0_swapPlaces_9 (s_exchangeB (j := 5) (by decide) rfl (fun _ => rfl) (by omega) (by omega) (by decide)) (by decide) (Nat.le_of_ble_eq_true rfl) ⟨Nat.zero_le _, Nat.zero_le _⟩ ?_
  refine r_aload0 (pc := 12) dX0_swapPlaces_12 ?_
  refine r_iload1 (pc := 13) dX0_swapPlaces_13 ?_
  have hI1 : InvB (ia S 5 (upd (upd (S.2 5) j (S.2 5 k)) k (S.2 5 j))) (exT z j k) := hI.setT (upd_ups (upd_ups (fun _ h => hI.T h) (hI.T hk)) (hI.T hj))
  have hZ1 := exT_ok hZ hj hk
  refine r_callV1w (pc := 14) lk_X0_177 dX0_swapPlaces_14 (bget0 rfl) (s_layBetterWay hI1 hZ1 (k := j) hj)  (by decide) (Nat.le_of_ble_eq_true rfl) ⟨Nat.zero_le _, Nat.zero_le _⟩ (fun M9 h9 => ?_)
  obtain ⟨S2, hI2, rfl⟩ := h9
  refine r_aload0 (pc := 17) dX0_swapPlaces_17 ?_
  refine r_iload2 (pc := 18) dX0_swapPlaces_18 ?_
  refine r_callV1w (pc := 19) lk_X0_177 dX0_swapPlaces_19 (bget0 rfl) (s_layBetterWay hI2 (layW_ok hZ1 j) (k := k) hk)  (by decide) (Nat.le_of_ble_eq_true rfl) ⟨Nat.zero_le _, Nat.zero_le _⟩ (fun M9 h9 => ?_)
  obtain ⟨S3, hI3, rfl⟩ := h9
  refine r_aload0 (pc := 22) dX0_swapPlaces_22 ?_
  refine r_getf (pc := 23) fl_X0_12 dX0_swapPlaces_23 (bget0 rfl) rfl ?_
  refine r_dup (pc := 26) dX0_swapPlaces_26 rfl ?_
  refine r_getf (pc := 27) fl_X0_54 dX0_swapPlaces_27 (bget rfl) rfl ?_
  refine n_iconst_1 (pc := 30) dX0_swapPlaces_30 ?_
  first | refine n_iadd (pc := 31) dX0_swapPlaces_31 ?_ | refine z_iadd (pc := 31) dX0_swapPlaces_31 ?_ | refine r_iadd (pc := 31) dX0_swapPlaces_31 ?_
  refine r_putfI (pc := 32) fl_X0_54 dX0_swapPlaces_32 (bget rfl) (Nat.le_of_ble_eq_true rfl) ?_
  refine G_M bii_X5_2 ?_
  exact p_return (pc := 35) false rfl rfl dX0_swapPlaces_35 (Nat.zero_le _) (Nat.zero_le _) (Or.inl rfl) ⟨rfl, _, hI3.chg, rfl⟩
set_option maxRecDepth 20000 in
theorem s_tryHold (hI : InvB S z) (hZ : ZOK z) {k : Nat} (hk : k < 2147483648) : SpecP mX0_tryHold 2 0 0 [.ref b, .int (nI k)] (bset M b S) (tB (some (.int (bI (decide (k < zt z))))) M b (if k < zt z then holdZ z k 1 else z)) := by
  have hd := hZ.dims
  refine Spec_of [some (.ref b), some (.int (nI k))] (by decide) (Nat.le_of_ble_eq_true rfl) rfl ?_
  refine r_aload0 (pc := 0) dX0_tryHold_0 ?_
  refine r_iload1 (pc := 1) dX0_tryHold_1 ?_
  refine r_callV1i (pc := 2) lk_X0_165 dX0_tryHold_2 (bget0 rfl) (s_hasPlace hI hZ) (by decide) (Nat.le_of_ble_eq_true rfl) ⟨Nat.zero_le _, Nat.zero_le _⟩ ?_
  rw [inR_nI hk (by omega)]
  refine b_if_ne (pc := 5) 10 (by decide) dX0_tryHold_5 (fun h9 => ?_) (fun h9 => ?_)
  · have hk1 : k < zt z := by simpa using h9
    refine r_aload0 (pc := 10) dX0_tryHold_10 ?_
    refine r_getf (pc := 11) fl_X0_12 dX0_tryHold_11 (bget0 rfl) rfl ?_
    refine r_getf (pc := 14) fl_X0_69 dX0_tryHold_14 (bget rfl) rfl ?_
    refine r_iload1 (pc := 17) dX0_tryHold_17 ?_
    refine n_iconst_1 (pc := 18) dX0_tryHold_18 ?_
    refine r_callN3v (pc := 19) lk_X0_85 dX0_tryHold_19 (s_putB (j := 7) (by decide) rfl (fun _ => rfl) (by omega) (by decide)) (by decide) (Nat.le_of_ble_eq_true rfl) ⟨Nat.zero_le _, Nat.zero_le _⟩ ?_
    refine n_iconst_1 (pc := 22) dX0_tryHold_22 ?_
    refine p_ireturn (pc := 23) false rfl rfl (by decide) dX0_tryHold_23 (Nat.zero_le _) (Nat.zero_le _) (Or.inl rfl) ⟨?_, _, ?_, rfl⟩
    · rw [h9]; rfl
    · rw [if_pos hk1]; exact hI.setH (upd_ups (fun _ h => hI.H h) rfl)
  · have hk1 : ¬ k < zt z := by simpa using h9
    refine n_iconst_0 (pc := 8) dX0_tryHold_8 ?_
    refine p_ireturn (pc := 9) false rfl rfl (by decide) dX0_tryHold_9 (Nat.zero_le _) (Nat.zero_le _) (Or.inl rfl) ⟨?_, S, ?_, rfl⟩
    · rw [h9]; rfl
    · rw [if_neg hk1]; exact hI
def canT (z : ZS) (k : Nat) : Bool := decide (k < zt z) && decide (zH z k = 0)
set_option maxRecDepth 20000 in
theorem s_tryTurn (hI : InvB S z) (hZ : ZOK z) {k : Nat} (hk : k < 2147483648) : SpecP mX0_tryTurn 3 0 0 [.ref b, .int (nI k)] (bset M b S) (tB (some (.int (bI (canT z k)))) M b (if canT z k then turnZ z k else z)) := by
  have hd := hZ.dims
  refine Spec_of [some (.ref b), some (.int (nI k))] (by decide) (Nat.le_of_ble_eq_true rfl) rfl ?_
  refine r_aload0 (pc := 0) dX0_tryTurn_0 ?_
  refine r_iload1 (pc := 1) dX0_tryTurn_1 ?_
  refine r_callV1i (pc := 2) lk_X0_165 dX0_tryTurn_2 (bget0 rfl) (s_hasPlace hI hZ) (by decide) (Nat.le_of_ble_eq_true rfl) ⟨Nat.zero_le _, Nat.zero_le _⟩ ?_
  rw [inR_nI hk (by omega)]
  refine b_if_eq (pc := 5) 16 (by decide) dX0_tryTurn_5 (fun h9 => ?_) (fun h9 => ?_)
  · refine n_iconst_0 (pc := 16) dX0_tryTurn_16 ?_
    have e : canT z k = false := by unfold canT; rw [h9]; rfl
    refine p_ireturn (pc := 17) false rfl rfl (by decide) dX0_tryTurn_17 (Nat.zero_le _) (Nat.zero_le _) (Or.inl rfl) ⟨by rw [e]; rfl, S, by rw [e]; exact hI, rfl⟩
  · have hk1 : k < zt z := by simpa using h9
    refine r_aload0 (pc := 8) dX0_tryTurn_8 ?_
    refine r_iload1 (pc := 9) dX0_tryTurn_9 ?_
    refine r_callV1i (pc := 10) lk_X0_168 dX0_tryTurn_10 (bget0 rfl) (s_isHeld hI hZ hk1) (by decide) (Nat.le_of_ble_eq_true rfl) ⟨Nat.zero_le _, Nat.zero_le _⟩ ?_
    refine b_if_eq (pc := 13) 18 (by decide) dX0_tryTurn_13 (fun h8 => ?_) (fun h8 => ?_)
    · have e : canT z k = true := by unfold canT; rw [h9]; simpa using h8
      refine r_aload0 (pc := 18) dX0_tryTurn_18 ?_
      refine r_iload1 (pc := 19) dX0_tryTurn_19 ?_
      refine r_callV1w (pc := 20) lk_X0_171 dX0_tryTurn_20 (bget0 rfl) (s_turnPlace hI hZ hk1) (by decide) (Nat.le_of_ble_eq_true rfl) ⟨Nat.zero_le _, Nat.zero_le _⟩ (fun M9 h9 => ?_)
      obtain ⟨S, hI, rfl⟩ := h9
      refine n_iconst_1 (pc := 23) dX0_tryTurn_23 ?_
      refine p_ireturn (pc := 24) false rfl rfl (by decide) dX0_tryTurn_24 (Nat.zero_le _) (Nat.zero_le _) (Or.inl rfl) ⟨by rw [e]; rfl, S, by rw [e]; exact hI, rfl⟩
    · have e : canT z k = false := by unfold canT; rw [h9]; simpa using h8
      refine n_iconst_0 (pc := 16) dX0_tryTurn_16 ?_
      refine p_ireturn (pc := 17) false rfl rfl (by decide) dX0_tryTurn_17 (Nat.zero_le _) (Nat.zero_le _) (Or.inl rfl) ⟨by rw [e]; rfl, S, by rw [e]; exact hI, rfl⟩
def canS (z : ZS) (j k : Nat) : Bool := decide (j < zt z) && decide (k < zt z) && decide (j ≠ k) && decide (zH z j = 0) && decide (zH z k = 0)
set_option maxRecDepth 20000 in
theorem s_trySwap (hI : InvB S z) (hZ : ZOK z) {j k : Nat} (hj : j < 2147483648) (hk : k < 2147483648) : SpecP mX0_trySwap 5 0 0 [.ref b, .int (nI j), .int (nI k)] (bset M b S) (tB (some (.int (bI (canS z j k)))) M b (if canS z j k then swapZ z j k else z)) := by
  have hd := hZ.dims
  refine Spec_of [some (.ref b), some (.int (nI j)), some (.int (nI k))] (by decide) (Nat.le_of_ble_eq_true rfl) rfl ?_
  have no : canS z j k = false →
    G mX0_trySwap 5 (.inl false) 0 0 (tB (some (.int (bI (canS z j k)))) M b (if canS z j k then swapZ z j k else z)) none 0 0 37 [some (.ref b), some (.int (nI j)), some (.int (nI k))] [] (bset M b S)
    := by
    intro e
    refine n_iconst_0 (pc := 37) dX0_trySwap_37 ?_
    refine p_ireturn (pc := 38) false rfl rfl (by decide) dX0_trySwap_38 (Nat.zero_le _) (Nat.zero_le _) (Or.inl rfl) ⟨by rw [e]; rfl, S, by rw [e]; exact hI, rfl⟩
  refine r_aload0 (pc := 0) dX0_trySwap_0 ?_
  refine r_iload1 (pc := 1) dX0_trySwap_1 ?_
  refine r_callV1i (pc := 2) lk_X0_165 dX0_trySwap_2 (bget0 rfl) (s_hasPlace hI hZ) (by decide) (Nat.le_of_ble_eq_true rfl) ⟨Nat.zero_le _, Nat.zero_le _⟩ ?_
  rw [inR_nI hj (by omega)]
  refine b_if_eq (pc := 5) 37 (by decide) dX0_trySwap_5 (fun h1 => no (by unfold canS; rw [h1]; simp)) (fun h1 => ?_)
  refine r_aload0 (pc := 8) dX0_trySwap_8 ?_
  refine r_iload2 (pc := 9) dX0_trySwap_9 ?_
  refine r_callV1i (pc := 10) lk_X0_165 dX0_trySwap_10 (bget0 rfl) (s_hasPlace hI hZ) (by decide) (Nat.le_of_ble_eq_true rfl) ⟨Nat.zero_le _, Nat.zero_le _⟩ ?_
  rw [inR_nI hk (by omega)]
  refine b_if_eq (pc := 13) 37 (by decide) dX0_trySwap_13 (fun h2 => no (by unfold canS; rw [h2]; simp)) (fun h2 => ?_)
  have hj1 : j < zt z := by simpa using h1
  have hk1 : k < zt z := by simpa using h2
  refine r_iload1 (pc := 16) dX0_trySwap_16 ?_
  refine r_iload2 (pc := 17) dX0_trySwap_17 ?_
  refine n_icmp_eq (pc := 18) 37 (by decide) dX0_trySwap_18 (by omega) (by omega) (fun h3 => no (by unfold canS; rw [h3]; simp)) (fun h3 => ?_)
  refine r_aload0 (pc := 21) dX0_trySwap_21 ?_
  refine r_iload1 (pc := 22) dX0_trySwap_22 ?_
  refine r_callV1i (pc := 23) lk_X0_168 dX0_trySwap_23 (bget0 rfl) (s_isHeld hI hZ hj1) (by decide) (Nat.le_of_ble_eq_true rfl) ⟨Nat.zero_le _, Nat.zero_le _⟩ ?_
  refine b_if_ne (pc := 26) 37 (by decide) dX0_trySwap_26 (fun h4 => no (by unfold canS; simp at h4; simp [h4])) (fun h4 => ?_)
  refine r_aload0 (pc := 29) dX0_trySwap_29 ?_
  refine r_iload2 (pc := 30) dX0_trySwap_30 ?_
  refine r_callV1i (pc := 31) lk_X0_168 dX0_trySwap_31 (bget0 rfl) (s_isHeld hI hZ hk1) (by decide) (Nat.le_of_ble_eq_true rfl) ⟨Nat.zero_le _, Nat.zero_le _⟩ ?_
  refine b_if_eq (pc := 34) 39 (by decide) dX0_trySwap_34 (fun h5 => ?_) (fun h5 => no (by unfold canS; simp at h5; simp [h5]))
  have e : canS z j k = true := by unfold canS; simp at h4 h5; simp [hj1, hk1, h3, h4, h5]
  refine r_aload0 (pc := 39) dX0_trySwap_39 ?_
  refine r_iload1 (pc := 40) dX0_trySwap_40 ?_
  refine r_iload2 (pc := 41) dX0_trySwap_41 ?_
  refine r_callV2w (pc := 42) lk_X0_180 dX0_trySwap_42 (bget0 rfl) (s_swapPlaces hI hZ hj1 hk1) (by decide) (Nat.le_of_ble_eq_true rfl) ⟨Nat.zero_le _, Nat.zero_le _⟩ (fun M9 h9 => ?_)
  obtain ⟨S, hI, rfl⟩ := h9
  refine n_iconst_1 (pc := 45) dX0_trySwap_45 ?_
  refine p_ireturn (pc := 46) false rfl rfl (by decide) dX0_trySwap_46 (Nat.zero_le _) (Nat.zero_le _) (Or.inl rfl) ⟨by rw [e]; rfl, S, by rw [e]; exact hI, rfl⟩
def canG (z : ZS) (x y g : Nat) : Bool := decide (x < zc z) && decide (y < zr z) && decide (g < 100)
set_option maxRecDepth 20000 in
theorem s_tryGrey (hI : InvB S z) (hZ : ZOK z) {x y g : Nat} (hx : x < 2147483648) (hy : y < 2147483648) (hg : g < 2147483648) : SpecP mX0_tryGrey 2 0 0 [.ref b, .int (nI x), .int (nI y), .int (nI g)] (bset M b S) (tB (some (.int (bI (canG z x y g)))) M b (if canG z x y g then greyZ z (y * zc z + x) g else z)) := by
  have hd := hZ.dims
  refine Spec_of [some (.ref b), some (.int (nI x)), some (.int (nI y)), some (.int (nI g))] (by decide) (Nat.le_of_ble_eq_true rfl) rfl ?_
  have no : canG z x y g = false →
    G mX0_tryGrey 2 (.inl false) 0 0 (tB (some (.int (bI (canG z x y g)))) M b (if canG z x y g then greyZ z (y * zc z + x) g else z)) none 0 0 16 [some (.ref b), some (.int (nI x)), some (.int (nI y)), some (.int (nI g))] [] (bset M b S)
    := by
    intro e
    refine n_iconst_0 (pc := 16) dX0_tryGrey_16 ?_
    refine p_ireturn (pc := 17) false rfl rfl (by decide) dX0_tryGrey_17 (Nat.zero_le _) (Nat.zero_le _) (Or.inl rfl) ⟨by rw [e]; rfl, S, by rw [e]; exact hI, rfl⟩
  refine r_aload0 (pc := 0) dX0_tryGrey_0 ?_
  refine r_iload1 (pc := 1) dX0_tryGrey_1 ?_
  refine r_iload2 (pc := 2) dX0_tryGrey_2 ?_
  refine r_callV2i (pc := 3) lk_X0_155 dX0_tryGrey_3 (bget0 rfl) (s_hasSquare hI hZ) (by decide) (Nat.le_of_ble_eq_true rfl) ⟨Nat.zero_le _, Nat.zero_le _⟩ ?_
  rw [inR_nI hx (by omega), inR_nI hy (by omega)]
  refine b_if_eq (pc := 6) 16 (by decide) dX0_tryGrey_6 (fun h1 => no (by unfold canG; rw [h1]; rfl)) (fun h1 => ?_)
  refine r_iload3 (pc := 9) dX0_tryGrey_9 ?_
  refine r_callN1i (pc := 10) lk_X0_159 dX0_tryGrey_10 s_isGrey (by decide) (Nat.le_of_ble_eq_true rfl) ⟨Nat.zero_le _, Nat.zero_le _⟩ ?_
  rw [inR_nI hg (by decide)]
  refine b_if_ne (pc := 13) 18 (by decide) dX0_tryGrey_13 (fun h2 => ?_) (fun h2 => no (by unfold canG; rw [h2, Bool.and_false]))
  have e : canG z x y g = true := by unfold canG; rw [h1, h2]; rfl
  have h3 : x < zc z ∧ y < zr z := by simpa using h1
  have hq : y * zc z + x < zq z := by
    have h4 : y * zc z + zc z ≤ zr z * zc z := by rw [← Nat.succ_mul]; exact Nat.mul_le_mul_right _ h3.2
    have h5 : zq z = zr z * zc z := Nat.mul_comm _ _
    omega
  refine r_aload0 (pc := 18) dX0_tryGrey_18 ?_
  refine r_getf (pc := 19) fl_X0_12 dX0_tryGrey_19 (bget0 rfl) rfl ?_
  refine r_getf (pc := 22) fl_X0_57 dX0_tryGrey_22 (bget rfl) rfl ?_
  refine r_aload0 (pc := 25) dX0_tryGrey_25 ?_
  refine r_iload1 (pc := 26) dX0_tryGrey_26 ?_
  refine r_iload2 (pc := 27) dX0_tryGrey_27 ?_
  refine r_callV2i (pc := 28) lk_X0_162 dX0_tryGrey_28 (bget0 rfl) (s_squareAt hI) (by decide) (Nat.le_of_ble_eq_true rfl) ⟨Nat.zero_le _, Nat.zero_le _⟩ ?_
  refine r_iload3 (pc := 31) dX0_tryGrey_31 ?_
  refine r_callN3v (pc := 32) lk_X0_85 dX0_tryGrey_32 (s_putB (j := 2) (by decide) rfl (fun _ => rfl) (by omega) (by decide)) (by decide) (Nat.le_of_ble_eq_true rfl) ⟨Nat.zero_le _, Nat.zero_le _⟩ ?_
  refine n_iconst_1 (pc := 35) dX0_tryGrey_35 ?_
  refine p_ireturn (pc := 36) false rfl rfl (by decide) dX0_tryGrey_36 (Nat.zero_le _) (Nat.zero_le _) (Or.inl rfl) ⟨by rw [e]; rfl, _, ?_, rfl⟩
  rw [e]; exact InvB.setG (g0 := zG z) hI (upd_ups (fun _ h => hI.G h) rfl)
set_option maxRecDepth 20000 in
theorem s_fadeAll (hI : InvB S z) (hZ : ZOK z) {a c : Nat} (ha : a ≤ 99) (hc : c ≤ 99) : SpecP mX0_fadeAll 2 0 0 [.ref b, .int (nI a), .int (nI c)] (bset M b S) (tB none M b (fadeZ z a c)) := by
  have hd := hZ.dims
  refine Spec_of [some (.ref b), some (.int (nI a)), some (.int (nI c)), none, none, none] (by decide) (Nat.le_of_ble_eq_true rfl) rfl ?_
  refine r_aload0 (pc := 0) dX0_fadeAll_0 ?_
  refine r_getf (pc := 1) fl_X0_96 dX0_fadeAll_1 (bget0 rfl) rfl ?_
  rw [hI.c0]
  refine r_aload0 (pc := 4) dX0_fadeAll_4 ?_
  refine r_getf (pc := 5) fl_X0_99 dX0_fadeAll_5 (bget0 rfl) rfl ?_
  rw [hI.c1]
  first | refine n_iadd (pc := 8) dX0_fadeAll_8 ?_ | refine z_iadd (pc := 8) dX0_fadeAll_8 ?_ | refine r_iadd (pc := 8) dX0_fadeAll_8 ?_
  refine n_iconst_2 (pc := 9) dX0_fadeAll_9 ?_
  refine n_isub (pc := 10) dX0_fadeAll_10 (by omega) ?_
  refine r_istore3 (pc := 11) dX0_fadeAll_11 rfl ?_
  refine n_iconst_0 (pc := 12) dX0_fadeAll_12 ?_
  refine r_istore4 (pc := 13) dX0_fadeAll_13 rfl ?_
  refine up_to (N := zq z) (k := 0) (fun i => ∀ S a5, InvB S (zset z 0 (fun s => if s < i then fadV z a c s else zG z s)) →
    G mX0_fadeAll 2 (.inl false) 0 0 (tB none M b (fadeZ z a c)) none 0 0 15 [some (.ref b), some (.int (nI a)), some (.int (nI c)), some (.int (nI (zc z + zr z - 2))), some (.int (nI i)), a5] [] (bset M b S)
    ) (fun S a5 hI => ?_) (fun i hi ih S a5 hI => ?_) (Nat.zero_le _) S none ⟨hI.1, fun s hs => by show S.2 2 s = nI (if s < 0 then fadV z a c s else zG z s); rw [if_neg (Nat.not_lt_zero s)]; exact hI.G hs, hI.2.2⟩
  · have hc2 : S.1 2 = nI (zq z) := hI.c2
    refine r_iload4 (pc := 15) dX0_fadeAll_15 ?_
    refine r_aload0 (pc := 17) dX0_fadeAll_17 ?_
    refine r_getf (pc := 18) fl_X0_102 dX0_fadeAll_18 (bget0 rfl) rfl ?_
    rw [hc2]
    refine n_icmp_ge (pc := 21) 83 (by decide) dX0_fadeAll_21 (by omega) (by omega) (fun hc21 => ?_) (fun hc21 => absurd hc21 (by omega))
    refine p_return (pc := 83) false rfl rfl dX0_fadeAll_83 (Nat.zero_le _) (Nat.zero_le _) (Or.inl rfl) ⟨rfl, S, ?_, rfl⟩
    refine ⟨hI.1, fun s hs => ?_, hI.2.2⟩
    have h1 := hI.2.1 s hs
    rw [h1]
    show nI (if s < zq z then fadV z a c s else zG z s) = nI (fadV z a c s)
    rw [if_pos (show s < zq z from hs)]
  · obtain ⟨f1, f2⟩ := fad_le hZ ha hc hi
    have hc0 : S.1 0 = nI (zc z) := hI.c0
    have hc2 : S.1 2 = nI (zq z) := hI.c2
    have hnn : nc a5 = true ∨ True := Or.inr trivial
    refine G_fgt 5 ?_
    refine r_iload4 (pc := 15) dX0_fadeAll_15 ?_
    refine r_aload0 (pc := 17) dX0_fadeAll_17 ?_
    refine r_getf (pc := 18) fl_X0_102 dX0_fadeAll_18 (bget0 rfl) rfl ?_
    rw [hc2]
    refine n_icmp_ge (pc := 21) 83 (by decide) dX0_fadeAll_21 (by omega) (by omega) (fun hc21 => absurd hc21 (by omega)) (fun hc21 => ?_)
    refine r_aload0 (pc := 24) dX0_fadeAll_24 ?_
    refine r_getf (pc := 25) fl_X0_96 dX0_fadeAll_25 (bget0 rfl) rfl ?_
    rw [hc0]
    refine n_if_le (pc := 28) 83 (by decide) dX0_fadeAll_28 (by omega) (fun hc28 => absurd hc28 (by omega)) (fun hc28 => ?_)
    refine r_iload3 (pc := 31) dX0_fadeAll_31 ?_
    refine n_if_le (pc := 32) 83 (by decide) dX0_fadeAll_32 (by omega) (fun hc32 => absurd hc32 (by omega)) (fun hc32 => ?_)
    refine r_iload4 (pc := 35) dX0_fadeAll_35 ?_
    refine r_aload0 (pc := 37) dX0_fadeAll_37 ?_
    refine r_getf (pc := 38) fl_X0_96 dX0_fadeAll_38 (bget0 rfl) rfl ?_
    rw [hc0]
    refine n_irem (pc := 41) dX0_fadeAll_41 (by omega) (by omega) (by omega) ?_
    refine r_iload4 (pc := 42) dX0_fadeAll_42 ?_
    refine r_aload0 (pc := 44) dX0_fadeAll_44 ?_
    refine r_getf (pc := 45) fl_X0_96 dX0_fadeAll_45 (bget0 rfl) rfl ?_
    rw [hc0]
    refine n_idiv (pc := 48) dX0_fadeAll_48 (by omega) (by omega) (by omega) ?_
    first | refine n_iadd (pc := 49) dX0_fadeAll_49 ?_ | refine z_iadd (pc := 49) dX0_fadeAll_49 ?_ | refine r_iadd (pc := 49) dX0_fadeAll_49 ?_
    refine r_istore5 (pc := 50) dX0_fadeAll_50 rfl ?_
    refine r_aload0 (pc := 52) dX0_fadeAll_52 ?_
    refine r_getf (pc := 53) fl_X0_12 dX0_fadeAll_53 (bget0 rfl) rfl ?_
    refine r_getf (pc := 56) fl_X0_57 dX0_fadeAll_56 (bget rfl) rfl ?_
    refine r_iload4 (pc := 59) dX0_fadeAll_59 ?_
    refine r_iload1 (pc := 61) dX0_fadeAll_61 ?_
    refine r_iload3 (pc := 62) dX0_fadeAll_62 ?_
    refine r_iload5 (pc := 63) dX0_fadeAll_63 ?_
    refine n_isub (pc := 65) dX0_fadeAll_65 (by omega) ?_
    first | refine n_imul (pc := 66) dX0_fadeAll_66 ?_ | refine z_imul (pc := 66) dX0_fadeAll_66 ?_ | refine r_imul (pc := 66) dX0_fadeAll_66 ?_
    refine r_iload2 (pc := 67) dX0_fadeAll_67 ?_
    refine r_iload5 (pc := 68) dX0_fadeAll_68 ?_
    first | refine n_imul (pc := 70) dX0_fadeAll_70 ?_ | refine z_imul (pc := 70) dX0_fadeAll_70 ?_ | refine r_imul (pc := 70) dX0_fadeAll_70 ?_
    first | refine n_iadd (pc := 71) dX0_fadeAll_71 ?_ | refine z_iadd (pc := 71) dX0_fadeAll_71 ?_ | refine r_iadd (pc := 71) dX0_fadeAll_71 ?_
    refine r_iload3 (pc := 72) dX0_fadeAll_72 ?_
    refine n_idiv (pc := 73) dX0_fadeAll_73 (by omega) (by omega) (by omega) ?_
    refine r_callN3v (pc := 74) lk_X0_85 dX0_fadeAll_74 (s_putB (j := 2) (by decide) rfl (fun _ => rfl) (by omega) (by decide)) (by decide) (Nat.le_of_ble_eq_true rfl) ⟨Nat.zero_le _, Nat.zero_le _⟩ ?_
    refine n_iinc4 (pc := 77) dX0_fadeAll_77 rfl ?_
    refine r_goto (pc := 80) 15 (by decide) dX0_fadeAll_80 ?_
    refine ih _ _ (InvB.setG hI (fun s hs => ?_))
    by_cases e : s = i
    · rw [e, upd_same]; simp; rfl
    · rw [upd_ne e, hI.2.1 s hs]
      show nI (if s < i then _ else _) = nI (if s < i + 1 then _ else _)
      by_cases h9 : s < i
      · rw [if_pos h9, if_pos (by omega)]
      · rw [if_neg h9, if_neg (by omega)]
end BWRITE
