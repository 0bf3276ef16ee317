theorem G_fgt (i : Nat) {q : MI} {d : Nat} {x : XM} {mc ms : Nat} {oc : TG} {al : Option Nat} {cs ss pc : Nat} {lv : List (Option Value)} {st : List Value} {M : Mem} (k : G q d x mc ms oc al cs ss pc (lv.set i none) st M) : G q d x mc ms oc al cs ss pc lv st M := by
  intro p l e R s m args below meth c H locs Q D nx nz ad ca A ls C hd hP hS hal hl
  refine k p l e R s m args below meth c H locs Q D nx nz ad ca A ls C hd hP hS hal ⟨hl.1, hl.2.1, by rw [List.length_set]; exact hl.2.2.1, fun j v hj => ?_⟩
  by_cases e : i = j
  · subst e
    by_cases hi : i < lv.length
    · rw [List.getElem?_set_self hi] at hj; cases hj
    · rw [List.getElem?_eq_none (by rw [List.length_set]; omega)] at hj; cases hj
  · rw [List.getElem?_set_ne e] at hj; exact hl.2.2.2 j v hj
theorem find_first {p : Nat → Bool} {n k : Nat} (hk : k < n) (h : p k = true) (hj : ∀ j, j < k → p j = false) : (List.range n).find? p = some k := by
  cases hq : (List.range n).find? p with
  | none => exact absurd h (by have := List.find?_eq_none.mp hq k (List.mem_range.mpr hk); simpa using this)
  | some m =>
    have h1 := List.find?_some hq
    rcases Nat.lt_trichotomy m k with q | q | q
    · rw [hj m q] at h1; cases h1
    · rw [q]
    · have h2 := List.find?_range_eq_some.mp hq
      have := h2.2.2 k q
      rw [h] at this; cases this
theorem find_no {p : Nat → Bool} {n : Nat} (hj : ∀ j, j < n → p j = false) : (List.range n).find? p = none :=
  List.find?_eq_none.mpr (fun l hl => by rw [hj l (List.mem_range.mp hl)]; decide)
def whZ (z : ZS) (t : Nat) : Option Nat := (List.range (zt z)).find? (fun k => decide (zT z k = t))
/-- the place of the least, of 0 to n, of several the first -/
def amin (f : Nat → Int) : Nat → Nat
  | 0 => 0
  | n + 1 => if f (n + 1) < f (amin f n) then n + 1 else amin f n
theorem amin_le (f : Nat → Int) : ∀ n, amin f n ≤ n
  | 0 => Nat.le_refl 0
  | n + 1 => by have := amin_le f n; unfold amin; split <;> omega
def lwk (z : ZS) (t k : Nat) : Int := lw z (zF z k) (zO z k) t
def fitZ (z : ZS) (t : Nat) : Nat := amin (lwk z t) (zt z - 1)
theorem InvB_congr {S S' : BS} {z : ZS} (h1 : ∀ i, i < 7 → S'.1 i = S.1 i) (h2 : ∀ i, i < 13 → S'.2 i = S.2 i) (h : InvB S z) : InvB S' z := by
  unfold InvB at h ⊢
  rw [h1 0 (by decide), h1 1 (by decide), h1 2 (by decide), h1 3 (by decide), h1 4 (by decide), h1 5 (by decide), h1 6 (by decide), h2 2 (by decide), h2 3 (by decide), h2 4 (by decide), h2 5 (by decide), h2 6 (by decide), h2 7 (by decide), h2 8 (by decide), h2 9 (by decide), h2 10 (by decide), h2 11 (by decide), h2 12 (by decide)]
  exact h
theorem InvB.scr {S : BS} {z : ZS} (h : InvB S z) {j : Nat} (hj : 13 ≤ j) (f : Nat → Int32) : InvB (ia S j f) z :=
  InvB_congr (S := S) (S' := ia S j f) (fun _ _ => rfl) (fun i hi => by show (if i = j then f else S.2 i) = S.2 i; rw [if_neg (by omega)]) h
theorem ia_same {S : BS} {j : Nat} {f : Nat → Int32} : (ia S j f).2 j = f := by show (if j = j then f else S.2 j) = f; rw [if_pos rfl]
theorem ia_ne {S : BS} {i j : Nat} {f : Nat → Int32} (h : i ≠ j) : (ia S j f).2 i = S.2 i := by show (if i = j then f else S.2 i) = S.2 i; rw [if_neg h]
theorem upd_same (f : Nat → Int32) (k : Nat) (v : Int32) : upd f k v k = v := pk_us
theorem upd_ne {f : Nat → Int32} {k j : Nat} {v : Int32} (h : j ≠ k) : upd f k v j = f j := pk_un h
set_option maxRecDepth 20000 in
theorem s_putB {M : Mem} {b : Nat} {S : BS} {j n k : Nat} {v : Int32} (hj : j < 22) (hc : (bcs b S)[j]? = some (cI n (S.2 j))) (hs : ∀ f, bcs b (ia S j f) = (bcs b S).set j (cI n f)) (hk : k < n) (hn : n < 2147483648) : Spec mX7_put 1 0 0 [.ref (b + j), .int (nI k), .int v] (bset M b S) none (bset M b (ia S j (upd (S.2 j) k v))) := by
  have h := s_put (v := v) (bget (M := M) hc) hk hn
  rw [bset_mset hj (hs _)] at h
  exact h
def tB (r : Option Value) (M : Mem) (b : Nat) (z : ZS) : TG := tP r (fun Mf => ∃ S', InvB S' z ∧ Mf = bset M b S')
/-- how many are worse -/
def rkZ (z : ZS) (k n : Nat) : Nat := zN (fun i => decide (er z k < er z i) || (decide (er z i = er z k) && decide (i < k))) n
def worZ (z : ZS) (r : Nat) : Option Nat := (List.range (zt z)).find? (fun k => decide (rkZ z k (zt z) = r))
section BREAD4
variable {M : Mem} {b : Nat} {S : BS} {z : ZS}
set_option maxRecDepth 20000 in
theorem s_placeWith (hI : InvB S z) (hZ : ZOK z) {t : Nat} (ht : t < zt z) : Spec mX0_placeWith 2 0 0 [.ref b, .int (nI t)] (bset M b S) (some (.int (oI (whZ z t)))) (bset M b S) := by
  have hd := hZ.dims
  refine Spec_of [some (.ref b), some (.int (nI t)), none] (by decide) (Nat.le_of_ble_eq_true rfl) rfl ?_
  refine n_iconst_0 (pc := 0) dX0_placeWith_0 ?_
  refine r_istore2 (pc := 1) dX0_placeWith_1 rfl ?_
  refine up_to (N := zt z) (k := 0) (fun k => (∀ j, j < k → zT z j ≠ t) → G mX0_placeWith 2 (.inl false) 0 0 (dT (some (.int (oI (whZ z t)))) (bset M b S)) none 0 0 2 [some (.ref b), some (.int (nI t)), some (.int (nI k))] [] (bset M b S)) (fun hno => ?_) (fun k hk ih hno => ?_) (Nat.zero_le _) (fun j hj => absurd hj (by omega))
  · rw [show whZ z t = none from find_no (fun j hj => by simp [hno j hj])]
    refine r_iload2 (pc := 2) dX0_placeWith_2 ?_
    refine r_aload0 (pc := 3) dX0_placeWith_3 ?_
    refine r_getf (pc := 4) fl_X0_75 dX0_placeWith_4 (bget0 rfl) rfl ?_
    rw [hI.c3]
    refine n_icmp_ge (pc := 7) 33 (by decide) dX0_placeWith_7 (by omega) (by omega) (fun hc7 => ?_) (fun hc7 => absurd hc7 (by omega))
    refine r_iconst_m1 (pc := 33) dX0_placeWith_33 ?_
    exact r_ireturn (pc := 34) false rfl rfl rfl dX0_placeWith_34 (Nat.zero_le _) (Nat.zero_le _) (Or.inl rfl) rfl rfl rfl
  · have := hZ.t hk
    refine r_iload2 (pc := 2) dX0_placeWith_2 ?_
    refine r_aload0 (pc := 3) dX0_placeWith_3 ?_
    refine r_getf (pc := 4) fl_X0_75 dX0_placeWith_4 (bget0 rfl) rfl ?_
    rw [hI.c3]
    refine n_icmp_ge (pc := 7) 33 (by decide) dX0_placeWith_7 (by omega) (by omega) (fun hc7 => absurd hc7 (by omega)) (fun hc7 => ?_)
    refine r_aload0 (pc := 10) dX0_placeWith_10 ?_
    refine r_getf (pc := 11) fl_X0_12 dX0_placeWith_11 (bget0 rfl) rfl ?_
    refine r_getf (pc := 14) fl_X0_82 dX0_placeWith_14 (bget rfl) rfl ?_
    refine r_iload2 (pc := 17) dX0_placeWith_17 ?_
    refine r_callN2i (pc := 18) lk_X0_115 dX0_placeWith_18 (s_at (bget rfl) (by omega) (by decide) (hI.T hk)) (by decide) (Nat.le_of_ble_eq_true rfl) ⟨Nat.zero_le _, Nat.zero_le _⟩ ?_
    refine r_iload1 (pc := 21) dX0_placeWith_21 ?_
    refine n_icmp_ne (pc := 22) 27 (by decide) dX0_placeWith_22 (by omega) (by omega) (fun h9 => ?_) (fun h9 => ?_)
    · refine n_iinc2 (pc := 27) dX0_placeWith_27 rfl ?_
      refine r_goto (pc := 30) 2 (by decide) dX0_placeWith_30 ?_
      exact ih (fun j hj => by rcases Nat.lt_succ_iff_lt_or_eq.mp hj with h8 | h8; exact hno j h8; rw [h8]; exact h9)
    · rw [show whZ z t = some k from find_first hk (by simp [h9]) (fun j hj => by simp [hno j hj])]
      refine r_iload2 (pc := 25) dX0_placeWith_25 ?_
      exact r_ireturn (pc := 26) false rfl rfl rfl dX0_placeWith_26 (Nat.zero_le _) (Nat.zero_le _) (Or.inl rfl) rfl rfl rfl
set_option maxRecDepth 20000 in
theorem s_bestPlaceFor (hI : InvB S z) (hZ : ZOK z) {t : Nat} (ht : t < zt z) : Spec mX0_bestPlaceFor 4 0 0 [.ref b, .int (nI t)] (bset M b S) (some (.int (nI (fitZ z t)))) (bset M b S) := by
  have hd := hZ.dims
  refine Spec_of [some (.ref b), some (.int (nI t)), none, none, none, none] (by decide) (Nat.le_of_ble_eq_true rfl) rfl ?_
  refine n_iconst_0 (pc := 0) dX0_bestPlaceFor_0 ?_
  refine r_istore2 (pc := 1) dX0_bestPlaceFor_1 rfl ?_
  refine r_aload0 (pc := 2) dX0_bestPlaceFor_2 ?_
  refine n_iconst_0 (pc := 3) dX0_bestPlaceFor_3 ?_
  refine r_iload1 (pc := 4) dX0_bestPlaceFor_4 ?_
  refine r_callV2i (pc := 5) lk_X0_152 dX0_bestPlaceFor_5 (bget0 rfl) (s_leastAt hI hZ (by omega) ht) (by decide) (Nat.le_of_ble_eq_true rfl) ⟨Nat.zero_le _, Nat.zero_le _⟩ ?_
  refine r_istore3 (pc := 8) dX0_bestPlaceFor_8 rfl ?_
  refine n_iconst_1 (pc := 9) dX0_bestPlaceFor_9 ?_
  refine r_istore4 (pc := 10) dX0_bestPlaceFor_10 rfl ?_
  rw [show lw z (zF z 0) (zO z 0) t = lwk z t (amin (lwk z t) 0) from rfl]
  refine up_to (N := zt z - 1) (k := 0) (fun k => G mX0_bestPlaceFor 4 (.inl false) 0 0 (dT (some (.int (nI (fitZ z t)))) (bset M b S)) none 0 0 12 [some (.ref b), some (.int (nI t)), some (.int (nI (amin (lwk z t) k))), some (.int (iI (lwk z t (amin (lwk z t) k)))), some (.int (nI (k + 1))), none] [] (bset M b S)) ?_ (fun k hk ih => ?_) (Nat.zero_le _)
  · refine r_iload4 (pc := 12) dX0_bestPlaceFor_12 ?_
    refine r_aload0 (pc := 14) dX0_bestPlaceFor_14 ?_
    refine r_getf (pc := 15) fl_X0_75 dX0_bestPlaceFor_15 (bget0 rfl) rfl ?_
    rw [hI.c3]
    refine n_icmp_ge (pc := 18) 48 (by decide) dX0_bestPlaceFor_18 (by omega) (by omega) (fun hc18 => ?_) (fun hc18 => absurd hc18 (by omega))
    refine r_iload2 (pc := 48) dX0_bestPlaceFor_48 ?_
    exact r_ireturn (pc := 49) false rfl rfl rfl dX0_bestPlaceFor_49 (Nat.zero_le _) (Nat.zero_le _) (Or.inl rfl) rfl rfl rfl
  · have hk1 : k + 1 < zt z := by omega
    have hm := amin_le (lwk z t) k
    have b1 : 0 ≤ lwk z t (k + 1) ∧ lwk z t (k + 1) ≤ 19602 := hZ.lwB (hZ.fq hk1) (hZ.oq hk1) ht
    have b2 : 0 ≤ lwk z t (amin (lwk z t) k) ∧ lwk z t (amin (lwk z t) k) ≤ 19602 := hZ.lwB (hZ.fq (show amin (lwk z t) k < zt z by omega)) (hZ.oq (show amin (lwk z t) k < zt z by omega)) ht
    refine r_iload4 (pc := 12) dX0_bestPlaceFor_12 ?_
    refine r_aload0 (pc := 14) dX0_bestPlaceFor_14 ?_
    refine r_getf (pc := 15) fl_X0_75 dX0_bestPlaceFor_15 (bget0 rfl) rfl ?_
    rw [hI.c3]
    refine n_icmp_ge (pc := 18) 48 (by decide) dX0_bestPlaceFor_18 (by omega) (by omega) (fun hc18 => absurd hc18 (by omega)) (fun hc18 => ?_)
    refine r_aload0 (pc := 21) dX0_bestPlaceFor_21 ?_
    refine r_iload4 (pc := 22) dX0_bestPlaceFor_22 ?_
    refine r_iload1 (pc := 24) dX0_bestPlaceFor_24 ?_
    refine r_callV2i (pc := 25) lk_X0_152 dX0_bestPlaceFor_25 (bget0 rfl) (s_leastAt hI hZ hk1 ht) (by decide) (Nat.le_of_ble_eq_true rfl) ⟨Nat.zero_le _, Nat.zero_le _⟩ ?_
    refine r_istore5 (pc := 28) dX0_bestPlaceFor_28 rfl ?_
    refine r_iload5 (pc := 30) dX0_bestPlaceFor_30 ?_
    refine r_iload3 (pc := 32) dX0_bestPlaceFor_32 ?_
    rw [show lw z (zF z (k + 1)) (zO z (k + 1)) t = lwk z t (k + 1) from rfl]
    have e : amin (lwk z t) (k + 1) = if lwk z t (k + 1) < lwk z t (amin (lwk z t) k) then k + 1 else amin (lwk z t) k := rfl
    refine z_icmp_ge (pc := 33) 42 (by decide) dX0_bestPlaceFor_33 (by omega) (by omega) (by omega) (by omega) (fun h9 => ?_) (fun h9 => ?_)
    · rw [if_neg (by omega)] at e
      refine n_iinc4 (pc := 42) dX0_bestPlaceFor_42 rfl ?_
      refine r_goto (pc := 45) 12 (by decide) dX0_bestPlaceFor_45 ?_
      rw [e] at ih; exact G_fgt 5 ih
    · rw [if_pos h9] at e
      refine r_iload5 (pc := 36) dX0_bestPlaceFor_36 ?_
      refine r_istore3 (pc := 38) dX0_bestPlaceFor_38 rfl ?_
      refine r_iload4 (pc := 39) dX0_bestPlaceFor_39 ?_
      refine r_istore2 (pc := 41) dX0_bestPlaceFor_41 rfl ?_
      refine n_iinc4 (pc := 42) dX0_bestPlaceFor_42 rfl ?_
      refine r_goto (pc := 45) 12 (by decide) dX0_bestPlaceFor_45 ?_
      rw [e] at ih; exact G_fgt 5 ih
set_option maxRecDepth 20000 in
theorem s_leastOfAll (hI : InvB S z) (hZ : ZOK z) : Spec mX0_leastOfAll 2 0 0 [.ref b] (bset M b S) (some (.int (iI (leastZ z)))) (bset M b S) := by
  have hd := hZ.dims
  have hn := hZ.n
  refine Spec_of [some (.ref b), none, none, none, none, none] (by decide) (Nat.le_of_ble_eq_true rfl) rfl ?_
  refine n_iconst_0 (pc := 0) dX0_leastOfAll_0 ?_
  refine r_istore1 (pc := 1) dX0_leastOfAll_1 rfl ?_
  refine n_iconst_0 (pc := 2) dX0_leastOfAll_2 ?_
  refine r_istore2 (pc := 3) dX0_leastOfAll_3 rfl ?_
  refine up_to (N := zq z) (k := 0) (fun k => ∀ a3 a4 a5, nc a3 = true → nc a4 = true → G mX0_leastOfAll 2 (.inl false) 0 0 (dT (some (.int (iI (leastZ z)))) (bset M b S)) none 0 0 4 [some (.ref b), some (.int (iI (zS (fun s => lsq z s (zn z)) k))), some (.int (nI k)), a3, a4, a5] [] (bset M b S)) (fun a3 a4 a5 _ _ => ?_) (fun s hs ih a3 a4 a5 h3 h4 => ?_) (Nat.zero_le _) none none none rfl rfl
  · refine r_iload2 (pc := 4) dX0_leastOfAll_4 ?_
    refine r_aload0 (pc := 5) dX0_leastOfAll_5 ?_
    refine r_getf (pc := 6) fl_X0_102 dX0_leastOfAll_6 (bget0 rfl) rfl ?_
    rw [hI.c2]
    refine n_icmp_ge (pc := 9) 84 (by decide) dX0_leastOfAll_9 (by omega) (by omega) (fun hc9 => ?_) (fun hc9 => absurd hc9 (by omega))
    refine r_iload1 (pc := 84) dX0_leastOfAll_84 ?_
    exact r_ireturn (pc := 85) false rfl rfl rfl dX0_leastOfAll_85 (Nat.zero_le _) (Nat.zero_le _) (Or.inl rfl) rfl rfl rfl
  · have hg := hZ.g hs
    refine r_iload2 (pc := 4) dX0_leastOfAll_4 ?_
    refine r_aload0 (pc := 5) dX0_leastOfAll_5 ?_
    refine r_getf (pc := 6) fl_X0_102 dX0_leastOfAll_6 (bget0 rfl) rfl ?_
    rw [hI.c2]
    refine n_icmp_ge (pc := 9) 84 (by decide) dX0_leastOfAll_9 (by omega) (by omega) (fun hc9 => absurd hc9 (by omega)) (fun hc9 => ?_)
    refine r_aload0 (pc := 12) dX0_leastOfAll_12 ?_
    refine r_getf (pc := 13) fl_X0_12 dX0_leastOfAll_13 (bget0 rfl) rfl ?_
    refine r_getf (pc := 16) fl_X0_57 dX0_leastOfAll_16 (bget rfl) rfl ?_
    refine r_iload2 (pc := 19) dX0_leastOfAll_19 ?_
    refine r_callN2i (pc := 20) lk_X0_115 dX0_leastOfAll_20 (s_at (bget rfl) (by omega) (by decide) (hI.G hs)) (by decide) (Nat.le_of_ble_eq_true rfl) ⟨Nat.zero_le _, Nat.zero_le _⟩ ?_
    refine r_istore3 (pc := 23) dX0_leastOfAll_23 rfl ?_
    refine r_iload3 (pc := 24) dX0_leastOfAll_24 ?_
    refine r_aload0 (pc := 25) dX0_leastOfAll_25 ?_
    refine n_iconst_0 (pc := 26) dX0_leastOfAll_26 ?_
    refine r_callV1i (pc := 27) lk_X0_105 dX0_leastOfAll_27 (bget0 rfl) (s_shade hI hZ (by omega)) (by decide) (Nat.le_of_ble_eq_true rfl) ⟨Nat.zero_le _, Nat.zero_le _⟩ ?_
    refine r_callS2i (pc := 30) lk_X0_141 dX0_leastOfAll_30 s_miss (by decide) (Nat.le_of_ble_eq_true rfl) ⟨Nat.zero_le _, Nat.zero_le _⟩ ?_
    refine r_istore4 (pc := 33) dX0_leastOfAll_33 rfl ?_
    refine n_iconst_1 (pc := 35) dX0_leastOfAll_35 ?_
    refine r_istore5 (pc := 36) dX0_leastOfAll_36 rfl ?_
    refine up_to (N := zn z) (k := 0) (fun k => G mX0_leastOfAll 2 (.inl false) 0 0 (dT (some (.int (iI (leastZ z)))) (bset M b S)) none 0 0 38 [some (.ref b), some (.int (iI (zS (fun s => lsq z s (zn z)) s))), some (.int (nI s)), some (.int (nI (zG z s))), some (.int (iI (lsq z s k))), some (.int (nI (k + 1)))] [] (bset M b S)) ?_ (fun k hk ih => ?_) (Nat.zero_le _)
    · refine r_iload5 (pc := 38) dX0_leastOfAll_38 ?_
      refine r_aload0 (pc := 40) dX0_leastOfAll_40 ?_
      refine r_getf (pc := 41) fl_X0_12 dX0_leastOfAll_41 (bget0 rfl) rfl ?_
      refine r_getf (pc := 44) fl_X0_47 dX0_leastOfAll_44 (bget rfl) rfl ?_
      rw [hI.c4]
      refine n_icmp_gt (pc := 47) 73 (by decide) dX0_leastOfAll_47 (by omega) (by omega) (fun hc47 => ?_) (fun hc47 => absurd hc47 (by omega))
      refine r_iload1 (pc := 73) dX0_leastOfAll_73 ?_
      refine r_iload4 (pc := 74) dX0_leastOfAll_74 ?_
      first | refine n_iadd (pc := 76) dX0_leastOfAll_76 ?_ | refine z_iadd (pc := 76) dX0_leastOfAll_76 ?_ | refine r_iadd (pc := 76) dX0_leastOfAll_76 ?_
      refine r_istore1 (pc := 77) dX0_leastOfAll_77 rfl ?_
      refine n_iinc2 (pc := 78) dX0_leastOfAll_78 rfl ?_
      refine r_goto (pc := 81) 4 (by decide) dX0_leastOfAll_81 ?_
      exact ih _ _ _ rfl rfl
    · refine r_iload5 (pc := 38) dX0_leastOfAll_38 ?_
      refine r_aload0 (pc := 40) dX0_leastOfAll_40 ?_
      refine r_getf (pc := 41) fl_X0_12 dX0_leastOfAll_41 (bget0 rfl) rfl ?_
      refine r_getf (pc := 44) fl_X0_47 dX0_leastOfAll_44 (bget rfl) rfl ?_
      rw [hI.c4]
      refine n_icmp_gt (pc := 47) 73 (by decide) dX0_leastOfAll_47 (by omega) (by omega) (fun hc47 => absurd hc47 (by omega)) (fun hc47 => ?_)
      refine r_iload4 (pc := 50) dX0_leastOfAll_50 ?_
      refine r_iload3 (pc := 52) dX0_leastOfAll_52 ?_
      refine r_aload0 (pc := 53) dX0_leastOfAll_53 ?_
      refine r_iload5 (pc := 54) dX0_leastOfAll_54 ?_
      refine r_callV1i (pc := 56) lk_X0_105 dX0_leastOfAll_56 (bget0 rfl) (s_shade hI hZ (by omega)) (by decide) (Nat.le_of_ble_eq_true rfl) ⟨Nat.zero_le _, Nat.zero_le _⟩ ?_
      refine r_callS2i (pc := 59) lk_X0_141 dX0_leastOfAll_59 s_miss (by decide) (Nat.le_of_ble_eq_true rfl) ⟨Nat.zero_le _, Nat.zero_le _⟩ ?_
      have b1 := lsq_le hZ hs k (by omega)
      have b2 := sqd_le hg (sh_le hn.1 (show k + 1 ≤ zn z by omega))
      have e : lsq z s (k + 1) = if lsq z s k < sqd (zG z s) (sh (zn z) (k + 1)) then lsq z s k else sqd (zG z s) (sh (zn z) (k + 1)) := rfl
      refine r_mmin (pc := 62) rfl (by decide) (Nat.le_of_ble_eq_true rfl) ⟨Nat.zero_le _, Nat.zero_le _⟩ dX0_leastOfAll_62 ?_
      have e2 : (if iI (sqd (zG z s) (sh (zn z) (k + 1))) < iI (lsq z s k) then iI (sqd (zG z s) (sh (zn z) (k + 1))) else iI (lsq z s k)) = iI (lsq z s (k + 1)) := by
        rw [e]
        by_cases h9 : sqd (zG z s) (sh (zn z) (k + 1)) < lsq z s k
        · rw [if_pos ((iI_lt (by omega) (by omega) (by omega) (by omega)).mpr h9), if_neg (by omega)]
        · rw [if_neg (fun h8 => h9 ((iI_lt (by omega) (by omega) (by omega) (by omega)).mp h8))]
          by_cases h7 : lsq z s k < sqd (zG z s) (sh (zn z) (k + 1))
          · rw [if_pos h7]
          · rw [if_neg h7, show lsq z s k = sqd (zG z s) (sh (zn z) (k + 1)) by omega]
      rw [e2]
      refine r_istore4 (pc := 65) dX0_leastOfAll_65 rfl ?_
      refine n_iinc5 (pc := 67) dX0_leastOfAll_67 rfl ?_
      refine r_goto (pc := 70) 38 (by decide) dX0_leastOfAll_70 ?_
      exact ih
end BREAD4
