/-! the reference at b: its object (whole numbers: 0 refusal, 1 size, 2 acts, 3 found, 4 its gain, 5 improved, 6 spot, 7 out), its rows: 0 text, 1 now, 2 trial, 3 diary, 4 kept, 5 isKept, 6 left -/
def kcs (b : Nat) (S : BS) : List PCell := [
  cO 7 [.int (S.1 0), .ref (b + 1), .int (S.1 1), .ref (b + 2), .ref (b + 3), .ref (b + 4), .int (S.1 2), .ref (b + 5), .ref (b + 6), .ref (b + 7), .int (S.1 3), .int (S.1 4), .int (S.1 5), .int (S.1 6), .int (S.1 7)],
  cI 120 (S.2 0), cI 563 (S.2 1), cI 563 (S.2 2), cI 7882 (S.2 3), cI 1126 (S.2 4), cZ 2 (S.2 5), cZ 56 (S.2 6)]
def kset (M : Mem) (b : Nat) (S : BS) : Mem := fun i => if b ≤ i ∧ i < b + 8 then (kcs b S)[i - b]? else M i
theorem kcs_len (b : Nat) (S : BS) : (kcs b S).length = 8 := rfl
theorem kget {M : Mem} {b j : Nat} {S : BS} {c : PCell} (h : (kcs b S)[j]? = some c) : kset M b S (b + j) = some c := by
  have hj : j < 8 := (List.getElem?_eq_some_iff.mp h).1
  unfold kset
  rw [if_pos ⟨Nat.le_add_right _ _, Nat.add_lt_add_left hj _⟩, Nat.add_sub_cancel_left]
  exact h
theorem kget0 {M : Mem} {b : Nat} {S : BS} {c : PCell} (h : (kcs b S)[0]? = some c) : kset M b S b = some c := kget (j := 0) h
theorem kset_out {M : Mem} {b i : Nat} {S : BS} (h : i < b ∨ b + 8 ≤ i) : kset M b S i = M i := by
  unfold kset
  rw [if_neg (by omega)]
theorem kset_kset {M : Mem} {b : Nat} {S S' : BS} : kset (kset M b S) b S' = kset M b S' := by
  funext i
  by_cases h : b ≤ i ∧ i < b + 8
  · unfold kset; rw [if_pos h, if_pos h]
  · unfold kset; rw [if_neg h, if_neg h, if_neg h]
theorem kset_self {M : Mem} {b : Nat} {S : BS} (h : ∀ j c, (kcs b S)[j]? = some c → M (b + j) = some c) : kset M b S = M := by
  funext i
  by_cases hi : b ≤ i ∧ i < b + 8
  · have hj : i - b < (kcs b S).length := by rw [kcs_len]; omega
    have h1 := h (i - b) _ (List.getElem?_eq_getElem hj)
    unfold kset
    rw [if_pos hi, List.getElem?_eq_getElem hj, ← h1, show b + (i - b) = i by omega]
  · unfold kset; rw [if_neg hi]
theorem kset_mset {M : Mem} {b j : Nat} {S S' : BS} {c : PCell} (hj : j < 8) (h : kcs b S' = (kcs b S).set j c) : mset (kset M b S) (b + j) c = kset M b S' := by
  funext i
  by_cases hi : i = b + j
  · subst hi
    rw [mset_same]
    unfold kset
    rw [if_pos ⟨Nat.le_add_right _ _, Nat.add_lt_add_left hj _⟩, Nat.add_sub_cancel_left, h, List.getElem?_set_self (by rw [kcs_len]; exact hj)]
  · rw [mset_ne hi]
    by_cases h2 : b ≤ i ∧ i < b + 8
    · unfold kset
      rw [if_pos h2, if_pos h2, h, List.getElem?_set_ne (by omega)]
    · unfold kset; rw [if_neg h2, if_neg h2]
theorem bii_X8_0 {M : Mem} {b : Nat} {S : BS} {v : Int32} : mset (kset M b S) b (cO 7 ([.int (S.1 0), .ref (b + 1), .int (S.1 1), .ref (b + 2), .ref (b + 3), .ref (b + 4), .int (S.1 2), .ref (b + 5), .ref (b + 6), .ref (b + 7), .int (S.1 3), .int (S.1 4), .int (S.1 5), .int (S.1 6), .int (S.1 7)].set 0 (.int v))) = kset M b (ii S 0 v) := kset_mset (j := 0) (by decide) rfl
theorem bii_X8_2 {M : Mem} {b : Nat} {S : BS} {v : Int32} : mset (kset M b S) b (cO 7 ([.int (S.1 0), .ref (b + 1), .int (S.1 1), .ref (b + 2), .ref (b + 3), .ref (b + 4), .int (S.1 2), .ref (b + 5), .ref (b + 6), .ref (b + 7), .int (S.1 3), .int (S.1 4), .int (S.1 5), .int (S.1 6), .int (S.1 7)].set 2 (.int v))) = kset M b (ii S 1 v) := kset_mset (j := 0) (by decide) rfl
theorem bii_X8_6 {M : Mem} {b : Nat} {S : BS} {v : Int32} : mset (kset M b S) b (cO 7 ([.int (S.1 0), .ref (b + 1), .int (S.1 1), .ref (b + 2), .ref (b + 3), .ref (b + 4), .int (S.1 2), .ref (b + 5), .ref (b + 6), .ref (b + 7), .int (S.1 3), .int (S.1 4), .int (S.1 5), .int (S.1 6), .int (S.1 7)].set 6 (.int v))) = kset M b (ii S 2 v) := kset_mset (j := 0) (by decide) rfl
theorem bii_X8_10 {M : Mem} {b : Nat} {S : BS} {v : Int32} : mset (kset M b S) b (cO 7 ([.int (S.1 0), .ref (b + 1), .int (S.1 1), .ref (b + 2), .ref (b + 3), .ref (b + 4), .int (S.1 2), .ref (b + 5), .ref (b + 6), .ref (b + 7), .int (S.1 3), .int (S.1 4), .int (S.1 5), .int (S.1 6), .int (S.1 7)].set 10 (.int v))) = kset M b (ii S 3 v) := kset_mset (j := 0) (by decide) rfl
theorem bii_X8_11 {M : Mem} {b : Nat} {S : BS} {v : Int32} : mset (kset M b S) b (cO 7 ([.int (S.1 0), .ref (b + 1), .int (S.1 1), .ref (b + 2), .ref (b + 3), .ref (b + 4), .int (S.1 2), .ref (b + 5), .ref (b + 6), .ref (b + 7), .int (S.1 3), .int (S.1 4), .int (S.1 5), .int (S.1 6), .int (S.1 7)].set 11 (.int v))) = kset M b (ii S 4 v) := kset_mset (j := 0) (by decide) rfl
theorem bii_X8_12 {M : Mem} {b : Nat} {S : BS} {v : Int32} : mset (kset M b S) b (cO 7 ([.int (S.1 0), .ref (b + 1), .int (S.1 1), .ref (b + 2), .ref (b + 3), .ref (b + 4), .int (S.1 2), .ref (b + 5), .ref (b + 6), .ref (b + 7), .int (S.1 3), .int (S.1 4), .int (S.1 5), .int (S.1 6), .int (S.1 7)].set 12 (.int v))) = kset M b (ii S 5 v) := kset_mset (j := 0) (by decide) rfl
theorem bii_X8_13 {M : Mem} {b : Nat} {S : BS} {v : Int32} : mset (kset M b S) b (cO 7 ([.int (S.1 0), .ref (b + 1), .int (S.1 1), .ref (b + 2), .ref (b + 3), .ref (b + 4), .int (S.1 2), .ref (b + 5), .ref (b + 6), .ref (b + 7), .int (S.1 3), .int (S.1 4), .int (S.1 5), .int (S.1 6), .int (S.1 7)].set 13 (.int v))) = kset M b (ii S 6 v) := kset_mset (j := 0) (by decide) rfl
theorem bii_X8_14 {M : Mem} {b : Nat} {S : BS} {v : Int32} : mset (kset M b S) b (cO 7 ([.int (S.1 0), .ref (b + 1), .int (S.1 1), .ref (b + 2), .ref (b + 3), .ref (b + 4), .int (S.1 2), .ref (b + 5), .ref (b + 6), .ref (b + 7), .int (S.1 3), .int (S.1 4), .int (S.1 5), .int (S.1 6), .int (S.1 7)].set 14 (.int v))) = kset M b (ii S 7 v) := kset_mset (j := 0) (by decide) rfl
theorem ii_ne {S : BS} {i j : Nat} {v : Int32} (h : i ≠ j) : (ii S j v).1 i = S.1 i := by show (if i = j then v else S.1 i) = S.1 i; rw [if_neg h]
theorem ii_same {S : BS} {j : Nat} {v : Int32} : (ii S j v).1 j = v := by show (if j = j then v else S.1 j) = v; rw [if_pos rfl]
/-- a row of the reference -/
def KR (c d : Nat) : Prop := (c = 2 ∧ d = 1) ∨ (c = 3 ∧ d = 2)
theorem KR.get {c d : Nat} (h : KR c d) {M : Mem} {b : Nat} {S : BS} : kset M b S (b + c) = some (cI 563 (S.2 d)) := by
  rcases h with ⟨h1, h2⟩ | ⟨h1, h2⟩ <;> subst h1 h2 <;> exact kget rfl
theorem KR.set {c d : Nat} (h : KR c d) {M : Mem} {b : Nat} {S : BS} {f : Nat → Int32} : rset (kset M b S) (b + c) f = kset M b (ia S d f) := by
  rcases h with ⟨h1, h2⟩ | ⟨h1, h2⟩ <;> subst h1 h2
  · exact kset_mset (j := 2) (by decide) rfl
  · exact kset_mset (j := 3) (by decide) rfl
theorem KR.self {c d : Nat} (h : KR c d) {M : Mem} {b : Nat} {S : BS} : rset (kset M b S) (b + c) (S.2 d) = kset M b S := mset_self h.get
/-- the row d changed alone, to the portrait z -/
def tK (r : Option Value) (M : Mem) (b : Nat) (S : BS) (d : Nat) (z : ZS) : TG := tP r (fun Mf => ∃ f', InvR f' z ∧ Mf = kset M b (ia S d f'))
theorem KR.to {c d d' : Nat} (h : KR c d) {y : MI} {as : List Value} {r : Option Value} {M : Mem} {b : Nat} {S : BS} {z : ZS} (hs : SpecP y d' 0 0 as (rset (kset M b S) (b + c) (S.2 d)) (tR r (kset M b S) (b + c) z)) : SpecP y d' 0 0 as (kset M b S) (tK r M b S d z) := by
  have e : tR r (kset M b S) (b + c) z = tK r M b S d z := by
    unfold tR tK
    have : (fun Mf => ∃ f', InvR f' z ∧ Mf = rset (kset M b S) (b + c) f') = (fun Mf => ∃ f', InvR f' z ∧ Mf = kset M b (ia S d f')) := by
      funext Mf
      have q : ∀ f', rset (kset M b S) (b + c) f' = kset M b (ia S d f') := fun f' => h.set
      simp only [q]
    rw [this]
  rw [h.self, e] at hs
  exact hs
theorem KR.eq {c d d' : Nat} (h : KR c d) {y : MI} {as : List Value} {r : Option Value} {M : Mem} {b : Nat} {S : BS} {f' : Nat → Int32} (hs : Spec y d' 0 0 as (rset (kset M b S) (b + c) (S.2 d)) r (rset (kset M b S) (b + c) f')) : Spec y d' 0 0 as (kset M b S) r (kset M b (ia S d f')) := by
  rw [h.self, h.set] at hs
  exact hs
/-- what is found -/
def SK (S : BS) (o : Option (Nat × Int)) : Prop := S.1 3 = bN o ∧ S.1 4 = iI (bG o)
/-- all but what is found is as before -/
def fnd (S : BS) (v w : Int32) : BS := ii (ii S 3 v) 4 w
def tF (M : Mem) (b : Nat) (S : BS) (o : Option (Nat × Int)) : TG := tP none (fun Mf => ∃ v w, SK (fnd S v w) o ∧ Mf = kset M b (fnd S v w))
theorem fnd_fnd (S : BS) (v w v' w' : Int32) : fnd (fnd S v w) v' w' = fnd S v' w' := by
  unfold fnd ii
  refine Prod.ext (funext (fun i => ?_)) rfl
  show (if i = 4 then w' else if i = 3 then v' else if i = 4 then w else if i = 3 then v else S.1 i) = (if i = 4 then w' else if i = 3 then v' else S.1 i)
  by_cases h4 : i = 4 <;> by_cases h3 : i = 3 <;> simp [h4, h3]
theorem fnd_self (S : BS) : fnd S (S.1 3) (S.1 4) = S := by
  unfold fnd ii
  refine Prod.ext (funext (fun i => ?_)) rfl
  show (if i = 4 then S.1 4 else if i = 3 then S.1 3 else S.1 i) = S.1 i
  by_cases h4 : i = 4
  · rw [if_pos h4, h4]
  · rw [if_neg h4]
    by_cases h3 : i = 3
    · rw [if_pos h3, h3]
    · rw [if_neg h3]
section RFIND
variable {M : Mem} {b : Nat} {S : BS} {z : ZS}
theorem s8_offer {o : Option (Nat × Int)} (hB : SK S o) (ho : okO o) {n : Nat} {g : Int} (hn : n < 30000) (h1 : -100000 ≤ g) (h2 : g ≤ 100000) : SpecP mX8_offer 1 0 0 [.ref b, .int (nI n), .int (iI g)] (kset M b S) (tF M b S (offZ o n g)) := by
  refine Spec_of [some (.ref b), some (.int (nI n)), some (.int (iI g))] (by decide) (Nat.le_of_ble_eq_true rfl) rfl ?_
  have take : offZ o n g = some (n, g) →
    G mX8_offer 1 (.inl false) 0 0 (tF M b S (offZ o n g)) none 0 0 16 [some (.ref b), some (.int (nI n)), some (.int (iI g))] [] (kset M b S)
    := by
    intro e
    refine r_aload0 (pc := 16) dX8_offer_16 ?_
    refine r_iload1 (pc := 17) dX8_offer_17 ?_
    refine r_putfI (pc := 18) fl_X8_106 dX8_offer_18 (kget0 rfl) (Nat.le_of_ble_eq_true rfl) ?_
    refine G_M bii_X8_10 ?_
    refine r_aload0 (pc := 21) dX8_offer_21 ?_
    refine r_iload2 (pc := 22) dX8_offer_22 ?_
    refine r_putfI (pc := 23) fl_X8_109 dX8_offer_23 (kget0 rfl) (Nat.le_of_ble_eq_true rfl) ?_
    refine G_M bii_X8_11 ?_
    exact p_return (pc := 26) false rfl rfl dX8_offer_26 (Nat.zero_le _) (Nat.zero_le _) (Or.inl rfl) ⟨rfl, _, _, by rw [e]; exact ⟨rfl, rfl⟩, rfl⟩
  refine r_aload0 (pc := 0) dX8_offer_0 ?_
  refine r_getf (pc := 1) fl_X8_106 dX8_offer_1 (kget0 rfl) rfl ?_
  rw [hB.1]
  refine r_iconst_m1 (pc := 4) dX8_offer_4 ?_
  cases o with
  | none =>
    exact r_icmp_eq (pc := 5) 16 (by decide) dX8_offer_5 (fun _ => take rfl) (fun h9 => absurd rfl h9)
  | some q =>
    obtain ⟨q1, q2, q3⟩ := ho q rfl
    refine r_icmp_eq (pc := 5) 16 (by decide) dX8_offer_5 (fun h9 => absurd h9 (nI_ne_m1 (by omega))) (fun _ => ?_)
    refine r_iload2 (pc := 8) dX8_offer_8 ?_
    refine r_aload0 (pc := 9) dX8_offer_9 ?_
    refine r_getf (pc := 10) fl_X8_109 dX8_offer_10 (kget0 rfl) rfl ?_
    rw [hB.2]
    refine z_icmp_le (pc := 13) 26 (by decide) dX8_offer_13 (by omega) (by omega) (show -2147483648 ≤ q.2 by omega) (show q.2 < 2147483648 by omega) (fun h9 => ?_) (fun h9 => take (by show (if q.2 < g then _ else _) = _; rw [if_pos (show q.2 < g from h9)]))
    have e : offZ (some q) n g = some q := by show (if q.2 < g then _ else _) = _; rw [if_neg (show ¬ q.2 < g from Int.not_lt.mpr h9)]
    exact p_return (pc := 26) false rfl rfl dX8_offer_26 (Nat.zero_le _) (Nat.zero_le _) (Or.inl rfl) ⟨rfl, S.1 3, S.1 4, by rw [e, fnd_self]; exact hB, by rw [fnd_self]⟩
set_option maxRecDepth 20000 in
theorem s8_findSwaps {c d : Nat} (hK : KR c d) {o : Option (Nat × Int)} (hI : InvR (S.2 d) z) (hZ : ZOK z) (hB : SK S o) (ho : okO o) {j : Nat} (hj : j < zt z) : SpecP mX8_findSwaps 7 0 0 [.ref b, .ref (b + c), .int (nI (zF z j)), .int (nI j)] (kset M b S) (tF M b S (if zH z j = 0 then swF z j o (zt z) else o)) := by
  have hd := hZ.dims
  have hqj := hZ.fq hj
  have hhj := hZ.h hj
  refine Spec_of [some (.ref b), some (.ref (b + c)), some (.int (nI (zF z j))), some (.int (nI j)), none, none] (by decide) (Nat.le_of_ble_eq_true rfl) rfl ?_
  refine r_iload3 (pc := 0) dX8_findSwaps_0 ?_
  refine r_istore4 (pc := 1) dX8_findSwaps_1 rfl ?_
  refine r_iload2 (pc := 3) dX8_findSwaps_3 ?_
  refine n_iconst_1 (pc := 4) dX8_findSwaps_4 ?_
  first | refine n_iadd (pc := 5) dX8_findSwaps_5 ?_ | refine z_iadd (pc := 5) dX8_findSwaps_5 ?_ | refine r_iadd (pc := 5) dX8_findSwaps_5 ?_
  refine r_istore5 (pc := 6) dX8_findSwaps_6 rfl ?_
  by_cases hh : zH z j = 0
  · rw [if_pos hh]
    refine up_to (N := zq z) (k := zF z j + 1) (fun t => ∀ v w, zF z j < t → SK (fnd S v w) (swF z j o (cnt z t)) →
      G mX8_findSwaps 7 (.inl false) 0 0 (tF M b S (swF z j o (zt z))) none 0 0 8 [some (.ref b), some (.ref (b + c)), some (.int (nI (zF z j))), some (.int (nI j)), some (.int (nI (cnt z t - 1))), some (.int (nI t))] [] (kset M b (fnd S v w))
      ) (fun v w hjt hB => ?_) (fun t ht ih v w hjt hB => ?_) (by omega) (S.1 3) (S.1 4) (Nat.lt_succ_self _) (by rw [fnd_self, cnt_succ hZ hj, swF_start _ (Nat.le_refl _)]; exact hB) |> fun h => by rw [fnd_self, cnt_succ hZ hj] at h; exact h
    · have hM : kset M b (fnd S v w) (b + c) = some (cI 563 (S.2 d)) := hK.get (S := fnd S v w)
      rw [cnt_end hZ] at hB
      refine r_iload5 (pc := 8) dX8_findSwaps_8 ?_
      refine r_aload1 (pc := 10) dX8_findSwaps_10 ?_
      refine r_callS1i (pc := 11) lk_X8_47 dX8_findSwaps_11 (s8_squares hM hI) (by decide) (Nat.le_of_ble_eq_true rfl) ⟨Nat.zero_le _, Nat.zero_le _⟩ ?_
      refine n_icmp_ge (pc := 14) 79 (by decide) dX8_findSwaps_14 (by omega) (by omega) (fun hc14 => ?_) (fun hc14 => absurd hc14 (by omega))
      exact p_return (pc := 79) false rfl rfl dX8_findSwaps_79 (Nat.zero_le _) (Nat.zero_le _) (Or.inl rfl) ⟨rfl, v, w, hB, rfl⟩
    · have hM : kset M b (fnd S v w) (b + c) = some (cI 563 (S.2 d)) := hK.get (S := fnd S v w)
      refine r_iload5 (pc := 8) dX8_findSwaps_8 ?_
      refine r_aload1 (pc := 10) dX8_findSwaps_10 ?_
      refine r_callS1i (pc := 11) lk_X8_47 dX8_findSwaps_11 (s8_squares hM hI) (by decide) (Nat.le_of_ble_eq_true rfl) ⟨Nat.zero_le _, Nat.zero_le _⟩ ?_
      refine n_icmp_ge (pc := 14) 79 (by decide) dX8_findSwaps_14 (by omega) (by omega) (fun hc14 => absurd hc14 (by omega)) (fun hc14 => ?_)
      refine r_aload1 (pc := 17) dX8_findSwaps_17 ?_
      refine n_sipush (pc := 18) 451 (by decide) dX8_findSwaps_18 ?_
      refine r_iload2 (pc := 21) dX8_findSwaps_21 ?_
      first | refine n_iadd (pc := 22) dX8_findSwaps_22 ?_ | refine z_iadd (pc := 22) dX8_findSwaps_22 ?_ | refine r_iadd (pc := 22) dX8_findSwaps_22 ?_
      refine n_iald (pc := 23) dX8_findSwaps_23 hM (by omega) (by decide) (hI.H hj) ?_
      refine n_if_ne (pc := 24) 79 (by decide) dX8_findSwaps_24 (by omega) (fun h9 => absurd hh h9) (fun _ => ?_)
      obtain ⟨y1, y2⟩ := cnt_spec hZ t
      have y3 := (y2 j hj).mp hjt
      rcases sq_cases hZ t with ⟨k, hk, ek, c1, c2⟩ | ⟨hn, c2⟩
      · subst ek
        have hlp := lz_pos z k
        have hhk := hZ.h hk
        have hjk : j < k := by omega
        rw [c2] at ih
        rw [c1] at hB ⊢
        have hsb := sg_b hZ hj hk
        refine r_aload1 (pc := 27) dX8_findSwaps_27 ?_
        refine n_bipush (pc := 28) 115 (by decide) dX8_findSwaps_28 ?_
        refine r_iload5 (pc := 30) dX8_findSwaps_30 ?_
        first | refine n_iadd (pc := 32) dX8_findSwaps_32 ?_ | refine z_iadd (pc := 32) dX8_findSwaps_32 ?_ | refine r_iadd (pc := 32) dX8_findSwaps_32 ?_
        refine n_iald (pc := 33) dX8_findSwaps_33 hM (by omega) (by decide) (hI.L hk) ?_
        refine n_if_le (pc := 34) 73 (by decide) dX8_findSwaps_34 (by omega) (fun h9 => absurd h9 (by omega)) (fun _ => ?_)
        refine n_iinc4 (pc := 37) dX8_findSwaps_37 rfl ?_
        rw [show k - 1 + 1 = k + 1 - 1 by omega]
        refine r_aload1 (pc := 40) dX8_findSwaps_40 ?_
        refine n_sipush (pc := 41) 451 (by decide) dX8_findSwaps_41 ?_
        refine r_iload5 (pc := 44) dX8_findSwaps_44 ?_
        first | refine n_iadd (pc := 46) dX8_findSwaps_46 ?_ | refine z_iadd (pc := 46) dX8_findSwaps_46 ?_ | refine r_iadd (pc := 46) dX8_findSwaps_46 ?_
        refine n_iald (pc := 47) dX8_findSwaps_47 hM (by omega) (by decide) (hI.H hk) ?_
        refine n_if_ne (pc := 48) 73 (by decide) dX8_findSwaps_48 (by omega) (fun h9 => ?_) (fun h9 => ?_)
        · refine n_iinc5 (pc := 73) dX8_findSwaps_73 rfl ?_
          refine r_goto (pc := 76) 8 (by decide) dX8_findSwaps_76 ?_
          refine ih v w (by omega) ?_
          rw [show swF z j o (k + 1) = swF z j o k by show (if j < k ∧ zH z k = 0 then _ else _) = _; rw [if_neg (fun h => h9 h.2)]]
          exact hB
        · refine r_aload0 (pc := 51) dX8_findSwaps_51 ?_
          refine n_sipush (pc := 52) 10000 (by decide) dX8_findSwaps_52 ?_
          refine n_bipush (pc := 55) 100 (by decide) dX8_findSwaps_55 ?_
          refine r_iload3 (pc := 57) dX8_findSwaps_57 ?_
          first | refine n_imul (pc := 58) dX8_findSwaps_58 ?_ | refine z_imul (pc := 58) dX8_findSwaps_58 ?_ | refine r_imul (pc := 58) dX8_findSwaps_58 ?_
          first | refine n_iadd (pc := 59) dX8_findSwaps_59 ?_ | refine z_iadd (pc := 59) dX8_findSwaps_59 ?_ | refine r_iadd (pc := 59) dX8_findSwaps_59 ?_
          refine r_iload4 (pc := 60) dX8_findSwaps_60 ?_
          first | refine n_iadd (pc := 62) dX8_findSwaps_62 ?_ | refine z_iadd (pc := 62) dX8_findSwaps_62 ?_ | refine r_iadd (pc := 62) dX8_findSwaps_62 ?_
          refine r_aload1 (pc := 63) dX8_findSwaps_63 ?_
          refine r_iload2 (pc := 64) dX8_findSwaps_64 ?_
          refine r_iload5 (pc := 65) dX8_findSwaps_65 ?_
          refine r_callS3i (pc := 67) lk_X8_97 dX8_findSwaps_67 (s8_gainOfSwap hM hI hZ hj hk) (by decide) (Nat.le_of_ble_eq_true rfl) ⟨Nat.zero_le _, Nat.zero_le _⟩ ?_
          rw [show 10000 + 100 * j + (k + 1 - 1) = 10000 + 100 * j + k by omega]
          refine r_callV2w (pc := 70) lk_X8_112 dX8_findSwaps_70 (kget0 rfl) (s8_offer hB (swF_ok hZ hj ho k (by omega)) (n := 10000 + 100 * j + k) (by omega) hsb.1 hsb.2)  (by decide) (Nat.le_of_ble_eq_true rfl) ⟨Nat.zero_le _, Nat.zero_le _⟩ (fun M9 h9 => ?_)
          obtain ⟨v', w', hB', rfl⟩ := h9
          rw [fnd_fnd] at hB' ⊢
          refine n_iinc5 (pc := 73) dX8_findSwaps_73 rfl ?_
          refine r_goto (pc := 76) 8 (by decide) dX8_findSwaps_76 ?_
          refine ih v' w' (by omega) ?_
          rw [show swF z j o (k + 1) = offZ (swF z j o k) (10000 + 100 * j + k) (sgZ z j k) by show (if j < k ∧ zH z k = 0 then _ else _) = _; rw [if_pos ⟨hjk, h9⟩]]
          exact hB'
      · rw [c2] at ih
        refine r_aload1 (pc := 27) dX8_findSwaps_27 ?_
        refine n_bipush (pc := 28) 115 (by decide) dX8_findSwaps_28 ?_
        refine r_iload5 (pc := 30) dX8_findSwaps_30 ?_
        first | refine n_iadd (pc := 32) dX8_findSwaps_32 ?_ | refine z_iadd (pc := 32) dX8_findSwaps_32 ?_ | refine r_iadd (pc := 32) dX8_findSwaps_32 ?_
        refine n_iald (pc := 33) dX8_findSwaps_33 hM (by omega) (by decide) (hI.Z (by omega) hn) ?_
        refine n_if_le (pc := 34) 73 (by decide) dX8_findSwaps_34 (by omega) (fun _ => ?_) (fun h9 => absurd h9 (by omega))
        refine n_iinc5 (pc := 73) dX8_findSwaps_73 rfl ?_
        refine r_goto (pc := 76) 8 (by decide) dX8_findSwaps_76 ?_
        exact ih v w (by omega) hB
  · have hM : kset M b S (b + c) = some (cI 563 (S.2 d)) := hK.get (S := S)
    rw [if_neg hh]
    have out :
      G mX8_findSwaps 7 (.inl false) 0 0 (tF M b S o) none 0 0 79 [some (.ref b), some (.ref (b + c)), some (.int (nI (zF z j))), some (.int (nI j)), some (.int (nI j)), some (.int (nI (zF z j + 1)))] [] (kset M b S)
      := p_return (pc := 79) false rfl rfl dX8_findSwaps_79 (Nat.zero_le _) (Nat.zero_le _) (Or.inl rfl) ⟨rfl, S.1 3, S.1 4, by rw [fnd_self]; exact hB, by rw [fnd_self]⟩
    refine r_iload5 (pc := 8) dX8_findSwaps_8 ?_
    refine r_aload1 (pc := 10) dX8_findSwaps_10 ?_
    refine r_callS1i (pc := 11) lk_X8_47 dX8_findSwaps_11 (s8_squares hM hI) (by decide) (Nat.le_of_ble_eq_true rfl) ⟨Nat.zero_le _, Nat.zero_le _⟩ ?_
    refine n_icmp_ge (pc := 14) 79 (by decide) dX8_findSwaps_14 (by omega) (by omega) (fun _ => out) (fun _ => ?_)
    refine r_aload1 (pc := 17) dX8_findSwaps_17 ?_
    refine n_sipush (pc := 18) 451 (by decide) dX8_findSwaps_18 ?_
    refine r_iload2 (pc := 21) dX8_findSwaps_21 ?_
    first | refine n_iadd (pc := 22) dX8_findSwaps_22 ?_ | refine z_iadd (pc := 22) dX8_findSwaps_22 ?_ | refine r_iadd (pc := 22) dX8_findSwaps_22 ?_
    refine n_iald (pc := 23) dX8_findSwaps_23 hM (by omega) (by decide) (hI.H hj) ?_
    exact n_if_ne (pc := 24) 79 (by decide) dX8_findSwaps_24 (by omega) (fun _ => out) (fun h9 => absurd h9 hh)
set_option maxRecDepth 20000 in
theorem s8_find {c d : Nat} (hK : KR c d) (hI : InvR (S.2 d) z) (hZ : ZOK z) : SpecP mX8_find 8 0 0 [.ref b, .ref (b + c)] (kset M b S) (tF M b S (bestZ z)) := by
  have hd := hZ.dims
  refine Spec_of [some (.ref b), some (.ref (b + c)), none, none] (by decide) (Nat.le_of_ble_eq_true rfl) rfl ?_
  refine r_aload0 (pc := 0) dX8_find_0 ?_
  refine r_iconst_m1 (pc := 1) dX8_find_1 ?_
  refine r_putfI (pc := 2) fl_X8_106 dX8_find_2 (kget0 rfl) (Nat.le_of_ble_eq_true rfl) ?_
  refine G_M bii_X8_10 ?_
  refine r_aload0 (pc := 5) dX8_find_5 ?_
  refine n_iconst_0 (pc := 6) dX8_find_6 ?_
  refine r_putfI (pc := 7) fl_X8_109 dX8_find_7 (kget0 rfl) (Nat.le_of_ble_eq_true rfl) ?_
  refine G_M bii_X8_11 ?_
  refine n_iconst_0 (pc := 10) dX8_find_10 ?_
  refine r_istore2 (pc := 11) dX8_find_11 rfl ?_
  refine n_iconst_0 (pc := 12) dX8_find_12 ?_
  refine r_istore3 (pc := 13) dX8_find_13 rfl ?_
  change G mX8_find 8 (.inl false) 0 0 (tF M b S (bestZ z)) none 0 0 14 [some (.ref b), some (.ref (b + c)), some (.int (nI (cnt z 0))), some (.int (nI 0))] [] (kset M b (fnd S (-1) (nI 0)))
  refine up_to (N := zq z) (k := 0) (fun t => ∀ v w, SK (fnd S v w) (tuF z (cnt z t)) →
    G mX8_find 8 (.inl false) 0 0 (tF M b S (bestZ z)) none 0 0 14 [some (.ref b), some (.ref (b + c)), some (.int (nI (cnt z t))), some (.int (nI t))] [] (kset M b (fnd S v w))
    ) (fun v w hB => ?_) (fun t ht ih v w hB => ?_) (Nat.zero_le _) _ _ ⟨rfl, rfl⟩
  · have hM : kset M b (fnd S v w) (b + c) = some (cI 563 (S.2 d)) := hK.get (S := fnd S v w)
    rw [cnt_end hZ] at hB ⊢
    refine r_iload3 (pc := 14) dX8_find_14 ?_
    refine r_aload1 (pc := 15) dX8_find_15 ?_
    refine r_callS1i (pc := 16) lk_X8_47 dX8_find_16 (s8_squares hM hI) (by decide) (Nat.le_of_ble_eq_true rfl) ⟨Nat.zero_le _, Nat.zero_le _⟩ ?_
    refine n_icmp_ge (pc := 19) 60 (by decide) dX8_find_19 (by omega) (by omega) (fun hc19 => ?_) (fun hc19 => absurd hc19 (by omega))
    refine n_iconst_0 (pc := 60) dX8_find_60 ?_
    refine r_istore2 (pc := 61) dX8_find_61 rfl ?_
    refine n_iconst_0 (pc := 62) dX8_find_62 ?_
    refine r_istore3 (pc := 63) dX8_find_63 rfl ?_
    change G mX8_find 8 (.inl false) 0 0 (tF M b S (bestZ z)) none 0 0 64 [some (.ref b), some (.ref (b + c)), some (.int (nI (cnt z 0))), some (.int (nI 0))] [] (kset M b (fnd S v w))
    refine up_to (N := zq z) (k := 0) (fun t => ∀ v w, SK (fnd S v w) (swA z (tuF z (zt z)) (cnt z t)) →
      G mX8_find 8 (.inl false) 0 0 (tF M b S (bestZ z)) none 0 0 64 [some (.ref b), some (.ref (b + c)), some (.int (nI (cnt z t))), some (.int (nI t))] [] (kset M b (fnd S v w))
      ) (fun v w hB => ?_) (fun t ht ih v w hB => ?_) (Nat.zero_le _) v w hB
    · have hM : kset M b (fnd S v w) (b + c) = some (cI 563 (S.2 d)) := hK.get (S := fnd S v w)
      rw [cnt_end hZ] at hB ⊢
      refine r_iload3 (pc := 64) dX8_find_64 ?_
      refine r_aload1 (pc := 65) dX8_find_65 ?_
      refine r_callS1i (pc := 66) lk_X8_47 dX8_find_66 (s8_squares hM hI) (by decide) (Nat.le_of_ble_eq_true rfl) ⟨Nat.zero_le _, Nat.zero_le _⟩ ?_
      refine n_icmp_ge (pc := 69) 97 (by decide) dX8_find_69 (by omega) (by omega) (fun hc69 => ?_) (fun hc69 => absurd hc69 (by omega))
      refine n_iconst_0 (pc := 97) dX8_find_97 ?_
      refine r_istore3 (pc := 98) dX8_find_98 rfl ?_
      refine up_to (N := zq z) (k := 0) (fun t => ∀ v w, SK (fnd S v w) (flF z (swA z (tuF z (zt z)) (zt z)) (cnt z t)) →
        G mX8_find 8 (.inl false) 0 0 (tF M b S (bestZ z)) none 0 0 99 [some (.ref b), some (.ref (b + c)), some (.int (nI (zt z))), some (.int (nI t))] [] (kset M b (fnd S v w))
        ) (fun v w hB => ?_) (fun t ht ih v w hB => ?_) (Nat.zero_le _) v w hB
      · have hM : kset M b (fnd S v w) (b + c) = some (cI 563 (S.2 d)) := hK.get (S := fnd S v w)
        rw [cnt_end hZ] at hB
        refine r_iload3 (pc := 99) dX8_find_99 ?_
        refine r_aload1 (pc := 100) dX8_find_100 ?_
        refine r_callS1i (pc := 101) lk_X8_47 dX8_find_101 (s8_squares hM hI) (by decide) (Nat.le_of_ble_eq_true rfl) ⟨Nat.zero_le _, Nat.zero_le _⟩ ?_
        refine n_icmp_ge (pc := 104) 135 (by decide) dX8_find_104 (by omega) (by omega) (fun hc104 => ?_) (fun hc104 => absurd hc104 (by omega))
        exact p_return (pc := 135) false rfl rfl dX8_find_135 (Nat.zero_le _) (Nat.zero_le _) (Or.inl rfl) ⟨rfl, v, w, hB, rfl⟩
      · have hM : kset M b (fnd S v w) (b + c) = some (cI 563 (S.2 d)) := hK.get (S := fnd S v w)
        refine r_iload3 (pc := 99) dX8_find_99 ?_
        refine r_aload1 (pc := 100) dX8_find_100 ?_
        refine r_callS1i (pc := 101) lk_X8_47 dX8_find_101 (s8_squares hM hI) (by decide) (Nat.le_of_ble_eq_true rfl) ⟨Nat.zero_le _, Nat.zero_le _⟩ ?_
        refine n_icmp_ge (pc := 104) 135 (by decide) dX8_find_104 (by omega) (by omega) (fun hc104 => absurd hc104 (by omega)) (fun hc104 => ?_)
        refine r_aload1 (pc := 107) dX8_find_107 ?_
        refine r_iload3 (pc := 108) dX8_find_108 ?_
        refine r_callS2i (pc := 109) lk_X8_119 dX8_find_109 (s8_isFlip hM hI hZ ht) (by decide) (Nat.le_of_ble_eq_true rfl) ⟨Nat.zero_le _, Nat.zero_le _⟩ ?_
        rcases sq_cases hZ t with ⟨k, hk, ek, c1, c2⟩ | ⟨hn, c2⟩
        · subst ek
          rw [c2] at ih
          rw [c1] at hB
          have e0 : flF z (swA z (tuF z (zt z)) (zt z)) (k + 1) = match part z k with
            | none => flF z (swA z (tuF z (zt z)) (zt z)) k
            | some l => if zH z k = 0 ∧ zH z l = 0 then offZ (flF z (swA z (tuF z (zt z)) (zt z)) k) (20000 + zF z k) (fgZ z k l) else flF z (swA z (tuF z (zt z)) (zt z)) k := rfl
          cases hp : part z k with
          | none =>
            rw [hp] at e0
            rw [canF_none hZ hk hp]
            refine b_if_eq (b := false) (pc := 112) 129 (by decide) dX8_find_112 (fun _ => ?_) (fun h9 => by cases h9)
            refine n_iinc3 (pc := 129) dX8_find_129 rfl ?_
            refine r_goto (pc := 132) 99 (by decide) dX8_find_132 ?_
            exact ih v w (by rw [e0]; exact hB)
          | some l =>
            rw [hp] at e0
            rw [canF_some hZ hk hp]
            have hfb := fg_b hZ hk hp
            by_cases hh : zH z k = 0 ∧ zH z l = 0
            · rw [if_pos hh]
              refine b_if_eq (b := true) (pc := 112) 129 (by decide) dX8_find_112 (fun h9 => by cases h9) (fun _ => ?_)
              refine r_aload0 (pc := 115) dX8_find_115 ?_
              refine n_sipush (pc := 116) 20000 (by decide) dX8_find_116 ?_
              refine r_iload3 (pc := 119) dX8_find_119 ?_
              first | refine n_iadd (pc := 120) dX8_find_120 ?_ | refine z_iadd (pc := 120) dX8_find_120 ?_ | refine r_iadd (pc := 120) dX8_find_120 ?_
              refine r_aload1 (pc := 121) dX8_find_121 ?_
              refine r_iload3 (pc := 122) dX8_find_122 ?_
              refine r_callS2i (pc := 123) lk_X8_103 dX8_find_123 (s8_gainOfFlip hM hI hZ hk hp) (by decide) (Nat.le_of_ble_eq_true rfl) ⟨Nat.zero_le _, Nat.zero_le _⟩ ?_
              refine r_callV2w (pc := 126) lk_X8_112 dX8_find_126 (kget0 rfl) (s8_offer hB (flF_ok hZ (swA_ok hZ (tuF_ok hZ _ (Nat.le_refl _)) _ (Nat.le_refl _)) k (by omega)) (n := 20000 + zF z k) (by omega) hfb.1 hfb.2)  (by decide) (Nat.le_of_ble_eq_true rfl) ⟨Nat.zero_le _, Nat.zero_le _⟩ (fun M9 h9 => ?_)
              obtain ⟨v', w', hB', rfl⟩ := h9
              rw [fnd_fnd] at hB' ⊢
              refine n_iinc3 (pc := 129) dX8_find_129 rfl ?_
              refine r_goto (pc := 132) 99 (by decide) dX8_find_132 ?_
              exact ih v' w' (by rw [e0]; show SK _ (if _ then _ else _); rw [if_pos hh]; exact hB')
            · rw [if_neg hh]
              refine b_if_eq (b := false) (pc := 112) 129 (by decide) dX8_find_112 (fun _ => ?_) (fun h9 => by cases h9)
              refine n_iinc3 (pc := 129) dX8_find_129 rfl ?_
              refine r_goto (pc := 132) 99 (by decide) dX8_find_132 ?_
              exact ih v w (by rw [e0]; show SK _ (if _ then _ else _); rw [if_neg hh]; exact hB)
        · rw [c2] at ih
          rw [canF_no hn]
          refine b_if_eq (b := false) (pc := 112) 129 (by decide) dX8_find_112 (fun _ => ?_) (fun h9 => by cases h9)
          refine n_iinc3 (pc := 129) dX8_find_129 rfl ?_
          refine r_goto (pc := 132) 99 (by decide) dX8_find_132 ?_
          exact ih v w hB
    · have hM : kset M b (fnd S v w) (b + c) = some (cI 563 (S.2 d)) := hK.get (S := fnd S v w)
      rcases sq_cases hZ t with ⟨k, hk, ek, c1, c2⟩ | ⟨hn, c2⟩
      · subst ek
        have hlp := lz_pos z k
        rw [c2] at ih
        rw [c1] at hB ⊢
        refine r_iload3 (pc := 64) dX8_find_64 ?_
        refine r_aload1 (pc := 65) dX8_find_65 ?_
        refine r_callS1i (pc := 66) lk_X8_47 dX8_find_66 (s8_squares hM hI) (by decide) (Nat.le_of_ble_eq_true rfl) ⟨Nat.zero_le _, Nat.zero_le _⟩ ?_
        refine n_icmp_ge (pc := 69) 97 (by decide) dX8_find_69 (by omega) (by omega) (fun hc69 => absurd hc69 (by omega)) (fun hc69 => ?_)
        refine r_aload1 (pc := 72) dX8_find_72 ?_
        refine n_bipush (pc := 73) 115 (by decide) dX8_find_73 ?_
        refine r_iload3 (pc := 75) dX8_find_75 ?_
        first | refine n_iadd (pc := 76) dX8_find_76 ?_ | refine z_iadd (pc := 76) dX8_find_76 ?_ | refine r_iadd (pc := 76) dX8_find_76 ?_
        refine n_iald (pc := 77) dX8_find_77 hM (by omega) (by decide) (hI.L hk) ?_
        refine n_if_le (pc := 78) 91 (by decide) dX8_find_78 (by omega) (fun h9 => absurd h9 (by omega)) (fun _ => ?_)
        refine r_aload0 (pc := 81) dX8_find_81 ?_
        refine r_aload1 (pc := 82) dX8_find_82 ?_
        refine r_iload3 (pc := 83) dX8_find_83 ?_
        refine r_iload2 (pc := 84) dX8_find_84 ?_
        refine r_callV3w (pc := 85) lk_X8_116 dX8_find_85 (kget0 rfl) (s8_findSwaps (S := fnd S v w) hK hI hZ hB (swA_ok hZ (tuF_ok hZ _ (Nat.le_refl _)) k (by omega)) hk)  (by decide) (Nat.le_of_ble_eq_true rfl) ⟨Nat.zero_le _, Nat.zero_le _⟩ (fun M9 h9 => ?_)
        obtain ⟨v', w', hB', rfl⟩ := h9
        rw [fnd_fnd] at hB' ⊢
        refine n_iinc2 (pc := 88) dX8_find_88 rfl ?_
        refine n_iinc3 (pc := 91) dX8_find_91 rfl ?_
        refine r_goto (pc := 94) 64 (by decide) dX8_find_94 ?_
        exact ih v' w' hB'
      · rw [c2] at ih
        refine r_iload3 (pc := 64) dX8_find_64 ?_
        refine r_aload1 (pc := 65) dX8_find_65 ?_
        refine r_callS1i (pc := 66) lk_X8_47 dX8_find_66 (s8_squares hM hI) (by decide) (Nat.le_of_ble_eq_true rfl) ⟨Nat.zero_le _, Nat.zero_le _⟩ ?_
        refine n_icmp_ge (pc := 69) 97 (by decide) dX8_find_69 (by omega) (by omega) (fun hc69 => absurd hc69 (by omega)) (fun hc69 => ?_)
        refine r_aload1 (pc := 72) dX8_find_72 ?_
        refine n_bipush (pc := 73) 115 (by decide) dX8_find_73 ?_
        refine r_iload3 (pc := 75) dX8_find_75 ?_
        first | refine n_iadd (pc := 76) dX8_find_76 ?_ | refine z_iadd (pc := 76) dX8_find_76 ?_ | refine r_iadd (pc := 76) dX8_find_76 ?_
        refine n_iald (pc := 77) dX8_find_77 hM (by omega) (by decide) (hI.Z ht hn) ?_
        refine n_if_le (pc := 78) 91 (by decide) dX8_find_78 (by omega) (fun _ => ?_) (fun h9 => absurd h9 (by omega))
        refine n_iinc3 (pc := 91) dX8_find_91 rfl ?_
        refine r_goto (pc := 94) 64 (by decide) dX8_find_94 ?_
        exact ih v w hB
  · have hM : kset M b (fnd S v w) (b + c) = some (cI 563 (S.2 d)) := hK.get (S := fnd S v w)
    rcases sq_cases hZ t with ⟨k, hk, ek, c1, c2⟩ | ⟨hn, c2⟩
    · subst ek
      have hlp := lz_pos z k
      have hhk := hZ.h hk
      have htb := tg_b hZ hk
      rw [c2] at ih
      rw [c1] at hB ⊢
      refine r_iload3 (pc := 14) dX8_find_14 ?_
      refine r_aload1 (pc := 15) dX8_find_15 ?_
      refine r_callS1i (pc := 16) lk_X8_47 dX8_find_16 (s8_squares hM hI) (by decide) (Nat.le_of_ble_eq_true rfl) ⟨Nat.zero_le _, Nat.zero_le _⟩ ?_
      refine n_icmp_ge (pc := 19) 60 (by decide) dX8_find_19 (by omega) (by omega) (fun hc19 => absurd hc19 (by omega)) (fun hc19 => ?_)
      refine r_aload1 (pc := 22) dX8_find_22 ?_
      refine n_bipush (pc := 23) 115 (by decide) dX8_find_23 ?_
      refine r_iload3 (pc := 25) dX8_find_25 ?_
      first | refine n_iadd (pc := 26) dX8_find_26 ?_ | refine z_iadd (pc := 26) dX8_find_26 ?_ | refine r_iadd (pc := 26) dX8_find_26 ?_
      refine n_iald (pc := 27) dX8_find_27 hM (by omega) (by decide) (hI.L hk) ?_
      refine n_if_le (pc := 28) 54 (by decide) dX8_find_28 (by omega) (fun h9 => absurd h9 (by omega)) (fun _ => ?_)
      refine r_aload1 (pc := 31) dX8_find_31 ?_
      refine n_sipush (pc := 32) 451 (by decide) dX8_find_32 ?_
      refine r_iload3 (pc := 35) dX8_find_35 ?_
      first | refine n_iadd (pc := 36) dX8_find_36 ?_ | refine z_iadd (pc := 36) dX8_find_36 ?_ | refine r_iadd (pc := 36) dX8_find_36 ?_
      refine n_iald (pc := 37) dX8_find_37 hM (by omega) (by decide) (hI.H hk) ?_
      refine n_if_ne (pc := 38) 51 (by decide) dX8_find_38 (by omega) (fun h9 => ?_) (fun h9 => ?_)
      · refine n_iinc2 (pc := 51) dX8_find_51 rfl ?_
        refine n_iinc3 (pc := 54) dX8_find_54 rfl ?_
        refine r_goto (pc := 57) 14 (by decide) dX8_find_57 ?_
        exact ih v w (by rw [show tuF z (k + 1) = tuF z k from if_neg h9]; exact hB)
      · refine r_aload0 (pc := 41) dX8_find_41 ?_
        refine r_iload2 (pc := 42) dX8_find_42 ?_
        refine r_aload1 (pc := 43) dX8_find_43 ?_
        refine r_iload3 (pc := 44) dX8_find_44 ?_
        refine r_callS2i (pc := 45) lk_X8_94 dX8_find_45 (s8_gainOfTurn hM hI hZ hk) (by decide) (Nat.le_of_ble_eq_true rfl) ⟨Nat.zero_le _, Nat.zero_le _⟩ ?_
        refine r_callV2w (pc := 48) lk_X8_112 dX8_find_48 (kget0 rfl) (s8_offer hB (tuF_ok hZ k (by omega)) (n := k) (by omega) htb.1 htb.2)  (by decide) (Nat.le_of_ble_eq_true rfl) ⟨Nat.zero_le _, Nat.zero_le _⟩ (fun M9 h9 => ?_)
        obtain ⟨v', w', hB', rfl⟩ := h9
        rw [fnd_fnd] at hB' ⊢
        refine n_iinc2 (pc := 51) dX8_find_51 rfl ?_
        refine n_iinc3 (pc := 54) dX8_find_54 rfl ?_
        refine r_goto (pc := 57) 14 (by decide) dX8_find_57 ?_
        exact ih v' w' (by rw [show tuF z (k + 1) = offZ (tuF z k) k (tgZ z k) from if_pos h9]; exact hB')
    · rw [c2] at ih
      refine r_iload3 (pc := 14) dX8_find_14 ?_
      refine r_aload1 (pc := 15) dX8_find_15 ?_
      refine r_callS1i (pc := 16) lk_X8_47 dX8_find_16 (s8_squares hM hI) (by decide) (Nat.le_of_ble_eq_true rfl) ⟨Nat.zero_le _, Nat.zero_le _⟩ ?_
      refine n_icmp_ge (pc := 19) 60 (by decide) dX8_find_19 (by omega) (by omega) (fun hc19 => absurd hc19 (by omega)) (fun hc19 => ?_)
      refine r_aload1 (pc := 22) dX8_find_22 ?_
      refine n_bipush (pc := 23) 115 (by decide) dX8_find_23 ?_
      refine r_iload3 (pc := 25) dX8_find_25 ?_
      first | refine n_iadd (pc := 26) dX8_find_26 ?_ | refine z_iadd (pc := 26) dX8_find_26 ?_ | refine r_iadd (pc := 26) dX8_find_26 ?_
      refine n_iald (pc := 27) dX8_find_27 hM (by omega) (by decide) (hI.Z ht hn) ?_
      refine n_if_le (pc := 28) 54 (by decide) dX8_find_28 (by omega) (fun _ => ?_) (fun h9 => absurd h9 (by omega))
      refine n_iinc3 (pc := 54) dX8_find_54 rfl ?_
      refine r_goto (pc := 57) 14 (by decide) dX8_find_57 ?_
      exact ih v w hB
end RFIND
